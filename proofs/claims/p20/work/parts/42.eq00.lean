/-! the tape as class and reference see it: 0 behind its end, 1 a letter, 2 a digit, 3 a sign, 5 a blank -/
theorem zb_some {α ρ : Type} (a : α) (k : α → Option ρ) : zb (some a) k = k a := rfl
theorem zg_in {ρ : Type} {i : Int32} {n : Nat} (c : Int32) (hc : c.toInt = (n : Int)) (h : 0 ≤ i ∧ i < c) (e : Option ρ) : zg i n e = e := by
  unfold zg
  have h1 := Int32.le_iff_toInt_le.mp h.1
  have h2 := Int32.lt_iff_toInt_lt.mp h.2
  rw [zi_0] at h1
  rw [hc] at h2
  rw [if_pos ⟨h1, h2⟩]
noncomputable def zKd (c : Int32) : Int32 := if c < 97 ∨ 122 < c then (if c < 48 ∨ 57 < c then (if c = 10 ∨ c = 32 then 5 else 3) else 2) else 1
theorem zKd_fn (c : Int32) : fn_X10_kindOf c = some (zKd c) := by
  unfold fn_X10_kindOf zj zKd
  dsimp only
  grind
noncomputable def zK (n : Int32) (g : Nat → Int32) (i : Int32) : Int32 := if i < 0 ∨ n ≤ i then 0 else zKd (g i.toNatClampNeg)
noncomputable def zB (n : Int32) (g : Nat → Int32) (i : Int32) : Int32 := if i < 0 ∨ n ≤ i then (-1) else g i.toNatClampNeg
theorem zB_fn {n : Int32} (hn : n ≤ 1200) (g : Nat → Int32) (i : Int32) : fn_X12_byteAt i n g = some (zB n g i) := by
  unfold fn_X12_byteAt zB
  by_cases c1 : i < 0
  · rw [if_pos c1, if_pos (Or.inl c1)]
  · rw [if_neg c1]
    by_cases c2 : n ≤ i
    · rw [if_pos c2, if_pos (Or.inr c2)]
    · rw [if_neg c2, if_neg (by grind), zg_in 1200 (by decide +kernel) (by grind)]
theorem zSm_fn {n : Int32} (hn : n ≤ 1200) (g : Nat → Int32) (i : Int32) : fn_X12_isSmall i n g = some (if zK n g i = 1 then 1 else 0) := by
  unfold fn_X12_isSmall
  simp only [zB_fn hn, zb_some]
  unfold zB zK zKd
  grind
theorem zDi_fn {n : Int32} (hn : n ≤ 1200) (g : Nat → Int32) (i : Int32) : fn_X12_isDigit i n g = some (if zK n g i = 2 then 1 else 0) := by
  unfold fn_X12_isDigit
  simp only [zB_fn hn, zb_some]
  unfold zB zK zKd
  grind
theorem zGw_fn (w : Int32) : fn_X12_goesWell w = some (if w = 0 then 1 else 0) := by
  unfold fn_X12_goesWell
  grind
noncomputable def zTp (f g : Nat → Int32) : Prop := ∀ i : Nat, (-128) ≤ f i ∧ f i ≤ 127 ∧ g i = (if f i < 0 then f i + 256 else f i)
theorem zTp_kd {f g : Nat → Int32} (h : zTp f g) (i : Nat) : zKd (f i) = zKd (g i) := by
  have := h i
  unfold zKd
  grind
theorem zK_at {n i : Int32} {g : Nat → Int32} (h0 : 0 ≤ i) (h1 : i < n) : zK n g i = zKd (g i.toNatClampNeg) := by
  unfold zK
  rw [if_neg (by grind)]
theorem zK_end {n i : Int32} {g : Nat → Int32} (h : n ≤ i) : zK n g i = 0 := by
  unfold zK
  rw [if_pos (Or.inr h)]
theorem zK_ahead {n : Int32} {g : Nat → Int32} (i : Int32) (h : i < 0) : zK n g i = 0 := by
  unfold zK
  rw [if_pos (Or.inl h)]
theorem zKd_c (c : Int32) : zKd c = 1 ∧ 97 ≤ c ∧ c ≤ 122 ∨ zKd c = 2 ∧ 48 ≤ c ∧ c ≤ 57 ∨ zKd c = 5 ∧ (c = 10 ∨ c = 32) ∨ zKd c = 3 ∧ ¬ c = 10 ∧ ¬ c = 32 ∧ (c < 97 ∨ 122 < c) ∧ (c < 48 ∨ 57 < c) := by
  unfold zKd
  grind
theorem zK_in {n i : Int32} {g : Nat → Int32} (h : ¬ zK n g i = 0) : 0 ≤ i ∧ i < n := by
  unfold zK at h
  by_cases c : i < 0 ∨ n ≤ i
  · rw [if_pos c] at h
    exact absurd rfl h
  · grind
/-! the next place that is no blank -/
noncomputable def zSk (n : Int32) (g : Nat → Int32) (a s : Int32) : Prop := a ≤ s ∧ (∀ i : Int32, a ≤ i → i < s → zK n g i = 5) ∧ ¬ zK n g s = 5
theorem zSk_un {n a s t : Int32} {g : Nat → Int32} (h : zSk n g a s) (h' : zSk n g a t) : s = t := by
  obtain ⟨h1, h2, h3⟩ := h
  obtain ⟨k1, k2, k3⟩ := h'
  by_cases c : s < t
  · exact absurd (k2 s h1 c) h3
  · by_cases d : t < s
    · exact absurd (h2 t k1 d) k3
    · grind
theorem zSk_le {n a s : Int32} {g : Nat → Int32} (h : zSk n g a s) (ha : a ≤ n) : s ≤ n := by
  obtain ⟨h1, h2, h3⟩ := h
  by_cases c : n < s
  · have h4 := h2 n ha c
    rw [zK_end (by grind)] at h4
    exact absurd h4 (by decide)
  · grind
theorem zHere {n a : Int32} {g : Nat → Int32} (hn : n ≤ 1200) (ha : 0 ≤ a ∧ a ≤ n) : zw (fn_X12_here n a g) (fun r => zSk n g a r.2 ∧ r.1 = zB n g r.2) := by
  unfold fn_X12_here
  simp only [zB_fn hn, zb_some]
  refine zw_zl32 (fun s_1 => a ≤ s_1 ∧ s_1 ≤ n ∧ (∀ i : Int32, a ≤ i → i < s_1 → zK n g i = 5)) (fun s_1 => n - s_1) (by (try dsimp only); grind) (by (try dsimp only); grind) (fun s_1 back_1 H h => ?_)
  obtain ⟨H1, H2, H3⟩ := H
  have hq : zB n g s_1 = 10 ∨ zB n g s_1 = 32 → zK n g s_1 = 5 ∧ s_1 < n := by
    unfold zB zK zKd
    grind
  have hnext : zK n g s_1 = 5 ∧ s_1 < n → zw (back_1 (s_1 + 1)) (fun r => zSk n g a r.2 ∧ r.1 = zB n g r.2) := by
    intro ⟨k1, k2⟩
    refine h _ ⟨by grind, by grind, fun i i1 i2 => ?_⟩ (by (try dsimp only); grind) (by (try dsimp only); grind)
    by_cases c : i = s_1
    · rw [c]; exact k1
    · exact H3 i i1 (by grind)
  refine zw_if (fun c => hnext (hq (Or.inl c))) (fun c => ?_)
  refine zw_if (fun d => hnext (hq (Or.inr d))) (fun d => ?_)
  refine zw_some ⟨⟨H1, H3, ?_⟩, rfl⟩
  intro k
  have : zB n g s_1 = 10 ∨ zB n g s_1 = 32 := by
    revert k
    unfold zB zK zKd
    grind
  grind
/-! a run of one kind -/
noncomputable def zRun (n : Int32) (g : Nat → Int32) (k s e : Int32) : Prop := s ≤ e ∧ (∀ i : Int32, s ≤ i → i < e → zK n g i = k) ∧ ¬ zK n g e = k
theorem zRun_un {n k s e t : Int32} {g : Nat → Int32} (h : zRun n g k s e) (h' : zRun n g k s t) : e = t := by
  obtain ⟨h1, h2, h3⟩ := h
  obtain ⟨k1, k2, k3⟩ := h'
  by_cases c : e < t
  · exact absurd (k2 e h1 c) h3
  · by_cases d : t < e
    · exact absurd (h2 t k1 d) k3
    · grind
/-! a number's digits, a name's letters -/
noncomputable def zDV (g : Nat → Int32) (s : Nat) : Nat → Int
  | 0 => 0
  | k + 1 => zDV g s k * 10 + ((g (s + k)).toInt - 48)
noncomputable def zLV (g : Nat → Int32) (s k i : Nat) : Int := if i < k then (g (s + i)).toInt - 96 else 0
noncomputable def zCV (l : Nat → Int) : Int := l 0 * 33554432 + l 1 * 1048576 + l 2 * 32768 + l 3 * 1024 + l 4 * 32 + l 5
noncomputable def zMV (l : Nat → Int) : Int := l 0 + l 1 * 32 + l 2 * 1024 + l 3 * 32768 + l 4 * 1048576 + l 5 * 33554432
theorem zDV_b {g : Nat → Int32} {s : Nat} : ∀ k : Nat, (∀ i : Nat, i < k → 48 ≤ (g (s + i)).toInt ∧ (g (s + i)).toInt ≤ 57) → 0 ≤ zDV g s k ∧ zDV g s k + 1 ≤ (10 : Int) ^ k := by
  intro k
  induction k with
  | zero => intro _; exact ⟨Int.le_refl _, by show (0 : Int) + 1 ≤ 10 ^ 0; decide⟩
  | succ k ih =>
    intro h
    have h1 := ih (fun i hi => h i (by omega))
    have h2 := h k (by omega)
    rw [Int.pow_succ]
    show 0 ≤ zDV g s k * 10 + _ ∧ zDV g s k * 10 + _ + 1 ≤ _
    omega
theorem zp10 {k m : Nat} (h : k ≤ m) : (10 : Int) ^ k ≤ (10 : Int) ^ m := by
  have := Nat.pow_le_pow_right (show 1 ≤ 10 by decide) h
  have h2 : ((10 ^ k : Nat) : Int) ≤ ((10 ^ m : Nat) : Int) := by omega
  rw [Int.natCast_pow, Int.natCast_pow] at h2
  exact h2
