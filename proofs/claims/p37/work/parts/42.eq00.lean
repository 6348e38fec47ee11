/-! the tape as class and reference see it: 0 behind its end, 1 a letter, 2 a digit, 3 a sign, 5 a blank -/
theorem zb_some {α ρ : Type} (a : α) (k : α → Option ρ) : zb (some a) k = k a := rfl
theorem zg_in {ρ : Type} {i : Int32} {n : Nat} (c : Int32) (hc : c.toInt = (n : Int)) (h : 0 ≤ i ∧ i < c) (e : Option ρ) : zg i n e = e := by
  unfold zg
  have h1 := Int32.le_iff_toInt_le.mp h.1
  have h2 := Int32.lt_iff_toInt_lt.mp h.2
  rw [zi_0] at h1
  rw [hc] at h2
  rw [if_pos ⟨h1, h2⟩]
noncomputable def zKd (c : Int32) : Int32 := if c < 97 ∨ 122 < c then (if c < 48 ∨ 57 < c then (if c = 10 ∨ c = 32 then 5 else 3) else 2) else 1
theorem zKd_fn (c : Int32) : fn_X10_kindOf c = some (zKd c) := by
  unfold fn_X10_kindOf zj zKd
  dsimp only
  grind
noncomputable def zK (n : Int32) (g : Nat → Int32) (i : Int32) : Int32 := if i < 0 ∨ n ≤ i then 0 else zKd (g i.toNatClampNeg)
noncomputable def zB (n : Int32) (g : Nat → Int32) (i : Int32) : Int32 := if i < 0 ∨ n ≤ i then (-1) else g i.toNatClampNeg
theorem zB_fn {n : Int32} (hn : n ≤ 1200) (g : Nat → Int32) (i : Int32) : fn_X12_byteAt i n g = some (zB n g i) := by
  unfold fn_X12_byteAt zB
  by_cases c1 : i < 0
  · rw [if_pos c1, if_pos (Or.inl c1)]
  · rw [if_neg c1]
    by_cases c2 : n ≤ i
    · rw [if_pos c2, if_pos (Or.inr c2)]
    · rw [if_neg c2, if_neg (by grind), zg_in 1200 (by decide +kernel) (by grind)]
theorem zSm_fn {n : Int32} (hn : n ≤ 1200) (g : Nat → Int32) (i : Int32) : fn_X12_isSmall i n g = some (if zK n g i = 1 then 1 else 0) := by
  unfold fn_X12_isSmall
  simp only [zB_fn hn, zb_some]
  unfold zB zK zKd
  grind
theorem zDi_fn {n : Int32} (hn : n ≤ 1200) (g : Nat → Int32) (i : Int32) : fn_X12_isDigit i n g = some (if zK n g i = 2 then 1 else 0) := by
  unfold fn_X12_isDigit
  simp only [zB_fn hn, zb_some]
  unfold zB zK zKd
  grind
theorem zGw_fn (w : Int32) : fn_X12_goesWell w = some (if w = 0 then 1 else 0) := by
  unfold fn_X12_goesWell
  grind
noncomputable def zTp (f g : Nat → Int32) : Prop := ∀ i : Nat, (-128) ≤ f i ∧ f i ≤ 127 ∧ g i = (if f i < 0 then f i + 256 else f i)
theorem zTp_kd {f g : Nat → Int32} (h : zTp f g) (i : Nat) : zKd (f i) = zKd (g i) := by
  have := h i
  unfold zKd
  grind
theorem zK_at {n i : Int32} {g : Nat → Int32} (h0 : 0 ≤ i) (h1 : i < n) : zK n g i = zKd (g i.toNatClampNeg) := by
  unfold zK
  rw [if_neg (by grind)]
theorem zK_end {n i : Int32} {g : Nat → Int32} (h : n ≤ i) : zK n g i = 0 := by
  unfold zK
  rw [if_pos (Or.inr h)]
theorem zK_ahead {n : Int32} {g : Nat → Int32} (i : Int32) (h : i < 0) : zK n g i = 0 := by
  unfold zK
  rw [if_pos (Or.inl h)]
theorem zKd_c (c : Int32) : zKd c = 1 ∧ 97 ≤ c ∧ c ≤ 122 ∨ zKd c = 2 ∧ 48 ≤ c ∧ c ≤ 57 ∨ zKd c = 5 ∧ (c = 10 ∨ c = 32) ∨ zKd c = 3 ∧ ¬ c = 10 ∧ ¬ c = 32 ∧ (c < 97 ∨ 122 < c) ∧ (c < 48 ∨ 57 < c) := by
  unfold zKd
  grind
theorem zK_in {n i : Int32} {g : Nat → Int32} (h : ¬ zK n g i = 0) : 0 ≤ i ∧ i < n := by
  unfold zK at h
  by_cases c : i < 0 ∨ n ≤ i
  · rw [if_pos c] at h
    exact absurd rfl h
  · grind
/-! the next place that is no blank -/
noncomputable def zSk (n : Int32) (g : Nat → Int32) (a s : Int32) : Prop := a ≤ s ∧ (∀ i : Int32, a ≤ i → i < s → zK n g i = 5) ∧ ¬ zK n g s = 5
theorem zSk_un {n a s t : Int32} {g : Nat → Int32} (h : zSk n g a s) (h' : zSk n g a t) : s = t := by
  obtain ⟨h1, h2, h3⟩ := h
  obtain ⟨k1, k2, k3⟩ := h'
  by_cases c : s < t
  · exact absurd (k2 s h1 c) h3
  · by_cases d : t < s
    · exact absurd (h2 t k1 d) k3
    · grind
theorem zSk_le {n a s : Int32} {g : Nat → Int32} (h : zSk n g a s) (ha : a ≤ n) : s ≤ n := by
  obtain ⟨h1, h2, h3⟩ := h
  by_cases c : n < s
  · have h4 := h2 n ha c
    rw [zK_end (by grind)] at h4
    exact absurd h4 (by decide)
  · grind
theorem zHere {n a : Int32} {g : Nat → Int32} (hn : n ≤ 1200) (ha : 0 ≤ a ∧ a ≤ n) : zw (fn_X12_here n a g) (fun r => zSk n g a r.2 ∧ r.1 = zB n g r.2) := by
  unfold fn_X12_here
  simp only [zB_fn hn, zb_some]
  refine zw_zl32 (fun s_1 => a ≤ s_1 ∧ s_1 ≤ n ∧ (∀ i : Int32, a ≤ i → i < s_1 → zK n g i = 5)) (fun s_1 => n - s_1) (by (try dsimp only); grind) (by (try dsimp only); grind) (fun s_1 back_1 H h => ?_)
  obtain ⟨H1, H2, H3⟩ := H
  have hq : zB n g s_1 = 10 ∨ zB n g s_1 = 32 → zK n g s_1 = 5 ∧ s_1 < n := by
    unfold zB zK zKd
    grind
  have hnext : zK n g s_1 = 5 ∧ s_1 < n → zw (back_1 (s_1 + 1)) (fun r => zSk n g a r.2 ∧ r.1 = zB n g r.2) := by
    intro ⟨k1, k2⟩
    refine h _ ⟨by grind, by grind, fun i i1 i2 => ?_⟩ (by (try dsimp only); grind) (by (try dsimp only); grind)
    by_cases c : i = s_1
    · rw [c]; exact k1
    · exact H3 i i1 (by grind)
  refine zw_if (fun c => hnext (hq (Or.inl c))) (fun c => ?_)
  refine zw_if (fun d => hnext (hq (Or.inr d))) (fun d => ?_)
  refine zw_some ⟨⟨H1, H3, ?_⟩, rfl⟩
  intro k
  have : zB n g s_1 = 10 ∨ zB n g s_1 = 32 := by
    revert k
    unfold zB zK zKd
    grind
  grind
/-! a run of one kind -/
noncomputable def zRun (n : Int32) (g : Nat → Int32) (k s e : Int32) : Prop := s ≤ e ∧ (∀ i : Int32, s ≤ i → i < e → zK n g i = k) ∧ ¬ zK n g e = k
theorem zRun_un {n k s e t : Int32} {g : Nat → Int32} (h : zRun n g k s e) (h' : zRun n g k s t) : e = t := by
  obtain ⟨h1, h2, h3⟩ := h
  obtain ⟨k1, k2, k3⟩ := h'
  by_cases c : e < t
  · exact absurd (k2 e h1 c) h3
  · by_cases d : t < e
    · exact absurd (h2 t k1 d) k3
    · grind
/-! a number's digits, a name's letters -/
noncomputable def zDV (g : Nat → Int32) (s : Nat) : Nat → Int
  | 0 => 0
  | k + 1 => zDV g s k * 10 + ((g (s + k)).toInt - 48)
noncomputable def zLV (g : Nat → Int32) (s k i : Nat) : Int := if i < k then (g (s + i)).toInt - 96 else 0
noncomputable def zCV (l : Nat → Int) : Int := l 0 * 33554432 + l 1 * 1048576 + l 2 * 32768 + l 3 * 1024 + l 4 * 32 + l 5
noncomputable def zMV (l : Nat → Int) : Int := l 0 + l 1 * 32 + l 2 * 1024 + l 3 * 32768 + l 4 * 1048576 + l 5 * 33554432
theorem zDV_b {g : Nat → Int32} {s : Nat} : ∀ k : Nat, (∀ i : Nat, i < k → 48 ≤ (g (s + i)).toInt ∧ (g (s + i)).toInt ≤ 57) → 0 ≤ zDV g s k ∧ zDV g s k + 1 ≤ (10 : Int) ^ k := by
  intro k
  induction k with
  | zero => intro _; exact ⟨Int.le_refl _, by show (0 : Int) + 1 ≤ 10 ^ 0; decide⟩
  | succ k ih =>
    intro h
    have h1 := ih (fun i hi => h i (by omega))
    have h2 := h k (by omega)
    rw [Int.pow_succ]
    show 0 ≤ zDV g s k * 10 + _ ∧ zDV g s k * 10 + _ + 1 ≤ _
    omega
theorem zp10 {k m : Nat} (h : k ≤ m) : (10 : Int) ^ k ≤ (10 : Int) ^ m := by
  have := Nat.pow_le_pow_right (show 1 ≤ 10 by decide) h
  have h2 : ((10 ^ k : Nat) : Int) ≤ ((10 ^ m : Nat) : Int) := by omega
  rw [Int.natCast_pow, Int.natCast_pow] at h2
  exact h2
/-! letters laid into one number -/
theorem zposN {x : Int32} (h : 0 ≤ x.toInt) : (x.toBitVec.toNat : Int) = x.toInt := by
  have h1 := BitVec.toInt_eq_toNat_cond x.toBitVec
  have h2 : x.toInt = x.toBitVec.toInt := rfl
  have h3 := x.toBitVec.isLt
  rw [h2] at h ⊢
  rw [h1] at h ⊢
  split at h
  · rw [if_pos (by assumption)]
  · omega
theorem ztoI {x : Int32} {n : Nat} (h : x.toBitVec.toNat = n) (hn : n < 2147483648) : x.toInt = (n : Int) := by
  have h1 := BitVec.toInt_eq_toNat_cond x.toBitVec
  have h2 : x.toInt = x.toBitVec.toInt := rfl
  rw [h2, h1, h, if_pos (by omega)]
theorem zorN (V X k : Nat) (hd : V % 2 ^ (k + 5) = 0) (hX : X < 32) : V ||| (X <<< k) = V + X * 2 ^ k := by
  have h2 : X <<< k < 2 ^ (k + 5) := by
    rw [Nat.shiftLeft_eq, Nat.pow_add, Nat.mul_comm (2 ^ k)]
    exact Nat.mul_lt_mul_of_pos_right (show X < 2 ^ 5 from hX) (Nat.two_pow_pos k)
  have h1 : V = (V / 2 ^ (k + 5)) <<< (k + 5) := by
    rw [Nat.shiftLeft_eq]
    exact (Nat.div_mul_cancel (Nat.dvd_of_mod_eq_zero hd)).symm
  generalize V / 2 ^ (k + 5) = a at h1
  subst h1
  rw [← Nat.shiftLeft_add_eq_or_of_lt h2, Nat.shiftLeft_eq X k]
theorem zorI {v x sh : Int32} {V X : Int} (k : Nat) (hk : k ≤ 25) (hsh : ∀ y : Int32, (y <<< sh).toBitVec = y.toBitVec <<< k) (hv : v.toInt = V) (hV : 0 ≤ V ∧ V < 1073741824) (hd : V % ((2 ^ (k + 5) : Nat) : Int) = 0) (hx : x.toInt = X) (hX : 0 ≤ X ∧ X < 32) : (v ||| (x <<< sh)).toInt = V + X * ((2 ^ k : Nat) : Int) := by
  have a1 := zposN (x := v) (by omega)
  have a2 := zposN (x := x) (by omega)
  have hk2 : 2 ^ k ≤ 2 ^ 25 := Nat.pow_le_pow_right (by decide) hk
  have e1 : (v ||| (x <<< sh)).toBitVec.toNat = v.toBitVec.toNat + x.toBitVec.toNat * 2 ^ k := by
    have e2 : (v ||| (x <<< sh)).toBitVec = v.toBitVec ||| (x <<< sh).toBitVec := rfl
    rw [e2, hsh, BitVec.toNat_or, BitVec.toNat_shiftLeft]
    have e3 : x.toBitVec.toNat <<< k < 2 ^ 32 := by
      rw [Nat.shiftLeft_eq]
      have : x.toBitVec.toNat * 2 ^ k ≤ 31 * 2 ^ 25 := Nat.mul_le_mul (by omega) hk2
      omega
    rw [Nat.mod_eq_of_lt e3]
    refine zorN _ _ _ ?_ (by omega)
    have : ((v.toBitVec.toNat % 2 ^ (k + 5) : Nat) : Int) = 0 := by
      rw [Int.natCast_emod, a1, hv]
      exact hd
    omega
  have e4 : x.toBitVec.toNat * 2 ^ k ≤ 31 * 2 ^ 25 := Nat.mul_le_mul (by omega) hk2
  have e5 := ztoI e1 (by omega)
  rw [e5, Int.natCast_add, Int.natCast_mul, a1, a2, hv, hx]
theorem zsh25 (y : Int32) : (y <<< (25 : Int32)).toBitVec = y.toBitVec <<< (25 : Nat) := rfl
theorem zsh20 (y : Int32) : (y <<< (20 : Int32)).toBitVec = y.toBitVec <<< (20 : Nat) := rfl
theorem zsh15 (y : Int32) : (y <<< (15 : Int32)).toBitVec = y.toBitVec <<< (15 : Nat) := rfl
theorem zsh10 (y : Int32) : (y <<< (10 : Int32)).toBitVec = y.toBitVec <<< (10 : Nat) := rfl
theorem zsh5 (y : Int32) : (y <<< (5 : Int32)).toBitVec = y.toBitVec <<< (5 : Nat) := rfl
theorem zsh0 (y : Int32) : (y <<< (0 : Int32)).toBitVec = y.toBitVec <<< (0 : Nat) := rfl
theorem zLet {g : Nat → Int32} {s : Nat} (k : Nat) (hk : k < 6) {v c p : Int32} (hv : v.toInt = zCV (zLV g s k)) (hl : ∀ i : Nat, i < k → 97 ≤ (g (s + i)).toInt ∧ (g (s + i)).toInt ≤ 122) (hc : c = g (s + k)) (hcr : 97 ≤ c.toInt ∧ c.toInt ≤ 122) (hp : p.toInt = (k : Int) + 1) : (v ||| ((c - 97 + 1) <<< ((5 * (6 - p)) &&& 31))).toInt = zCV (zLV g s (k + 1)) := by
  have k1 := zo_sub (x := c) (y := 97) (z := c - 97) rfl rfl (by decide +kernel : (97 : Int32).toInt = 97) (by omega)
  have k2 := zo_add (x := c - 97) (y := 1) (z := c - 97 + 1) rfl k1 zi_1' (by omega)
  rw [hc] at hcr k2
  rw [hc]
  clear k1 hc
  match k, hk with
  | 0, _ =>
    have e : p = 1 := Int32.toInt_inj.mp (by rw [hp]; decide +kernel)
    subst e
    have := zorI 25 (by decide) zsh25 hv (by simp [zCV, zLV]) (by simp [zCV, zLV]) k2 (by omega)
    rw [show ((5 * (6 - 1)) &&& 31 : Int32) = 25 by decide +kernel, this]
    simp [zCV, zLV]
    omega
  | 1, _ =>
    have e : p = 2 := Int32.toInt_inj.mp (by rw [hp]; decide +kernel)
    subst e
    have l0 := hl 0 (by decide)
    simp only [Nat.add_zero] at l0
    have := zorI 20 (by decide) zsh20 hv (by simp [zCV, zLV] <;> omega) (by simp [zCV, zLV] <;> omega) k2 (by omega)
    rw [show ((5 * (6 - 2)) &&& 31 : Int32) = 20 by decide +kernel, this]
    simp [zCV, zLV]
    omega
  | 2, _ =>
    have e : p = 3 := Int32.toInt_inj.mp (by rw [hp]; decide +kernel)
    subst e
    have l0 := hl 0 (by decide)
    have l1 := hl 1 (by decide)
    simp only [Nat.add_zero] at l0
    have := zorI 15 (by decide) zsh15 hv (by simp [zCV, zLV] <;> omega) (by simp [zCV, zLV] <;> omega) k2 (by omega)
    rw [show ((5 * (6 - 3)) &&& 31 : Int32) = 15 by decide +kernel, this]
    simp [zCV, zLV]
    omega
  | 3, _ =>
    have e : p = 4 := Int32.toInt_inj.mp (by rw [hp]; decide +kernel)
    subst e
    have l0 := hl 0 (by decide)
    have l1 := hl 1 (by decide)
    have l2 := hl 2 (by decide)
    simp only [Nat.add_zero] at l0
    have := zorI 10 (by decide) zsh10 hv (by simp [zCV, zLV] <;> omega) (by simp [zCV, zLV] <;> omega) k2 (by omega)
    rw [show ((5 * (6 - 4)) &&& 31 : Int32) = 10 by decide +kernel, this]
    simp [zCV, zLV]
    omega
  | 4, _ =>
    have e : p = 5 := Int32.toInt_inj.mp (by rw [hp]; decide +kernel)
    subst e
    have l0 := hl 0 (by decide)
    have l1 := hl 1 (by decide)
    have l2 := hl 2 (by decide)
    have l3 := hl 3 (by decide)
    simp only [Nat.add_zero] at l0
    have := zorI 5 (by decide) zsh5 hv (by simp [zCV, zLV] <;> omega) (by simp [zCV, zLV] <;> omega) k2 (by omega)
    rw [show ((5 * (6 - 5)) &&& 31 : Int32) = 5 by decide +kernel, this]
    simp [zCV, zLV]
    omega
  | 5, _ =>
    have e : p = 6 := Int32.toInt_inj.mp (by rw [hp]; decide +kernel)
    subst e
    have l0 := hl 0 (by decide)
    have l1 := hl 1 (by decide)
    have l2 := hl 2 (by decide)
    have l3 := hl 3 (by decide)
    have l4 := hl 4 (by decide)
    simp only [Nat.add_zero] at l0
    have := zorI 0 (by decide) zsh0 hv (by simp [zCV, zLV] <;> omega) (by simp [zCV, zLV] <;> omega) k2 (by omega)
    rw [show ((5 * (6 - 6)) &&& 31 : Int32) = 0 by decide +kernel, this]
    simp [zCV, zLV]
    omega
/-! the class's own words -/
noncomputable def zOwT (k : Nat) : Int32 := ([217658420, 658685952, 452579328, 117035008, 102354944, 317216384, 408551424, 446103552, 438042624, 211555456, 254268928, 48880818, 781852974] : List Int32).getD k 0
theorem zFind {p : Int32} {f1 : Nat → Int32} (h : ∀ w : Nat, w < 13 → f1 w = zOwT w) : zw (fn_X10_findOwn p f1) (fun r => r = (-1) ∧ (∀ w : Nat, w < 13 → ¬ zOwT w = p) ∨ 0 ≤ r ∧ r < 13 ∧ zOwT r.toNatClampNeg = p) := by
  unfold fn_X10_findOwn
  refine zw_zl32 (fun s_1 => 0 ≤ s_1 ∧ s_1 ≤ 13 ∧ (∀ w : Nat, (w : Int) < s_1.toInt → ¬ zOwT w = p)) (fun s_1 => 13 - s_1) ⟨by decide, by decide, fun w hw => by rw [zi_0] at hw; omega⟩ (by (try dsimp only); decide) (fun s_1 back_1 H h1 => ?_)
  obtain ⟨H1, H2, H3⟩ := H
  have k13 : (13 : Int32).toInt = 13 := by decide +kernel
  refine zw_if (fun c => ?_) (fun c => ?_)
  · refine zw_some (Or.inl ⟨rfl, fun w hw => H3 w ?_⟩)
    have := Int32.le_iff_toInt_le.mp c
    omega
  have c13 : s_1.toInt < 13 := by
    have := Int32.lt_iff_toInt_lt.mp (show s_1 < 13 by grind)
    omega
  have c0 := Int32.le_iff_toInt_le.mp H1
  rw [zi_0] at c0
  have ew : f1 s_1.toNatClampNeg = zOwT s_1.toNatClampNeg := h _ (by show s_1.toInt.toNat < 13; omega)
  refine zw_zg32 13 (by decide) ⟨H1, by grind⟩ ?_
  refine zw_if (fun d => ?_) (fun d => ?_)
  · exact zw_some (Or.inr ⟨H1, by grind, by rw [← ew]; exact d⟩)
  refine h1 _ ⟨by grind, by grind, fun w hw => ?_⟩ (by (try dsimp only); grind) (by (try dsimp only); grind)
  have e1 := zo_add (x := s_1) (y := 1) (z := s_1 + 1) rfl rfl zi_1' (by omega)
  rw [e1] at hw
  by_cases q : (w : Int) < s_1.toInt
  · exact H3 w q
  · have : w = s_1.toNatClampNeg := by show w = s_1.toInt.toNat; omega
    rw [this, ← ew]; exact d
/-! the word, number or sign that comes next -/
noncomputable def zJn (n : Int32) (g : Nat → Int32) (a s : Int32) : Prop := s = a ∧ (zK n g (a - 1) = 1 ∨ zK n g (a - 1) = 2)
noncomputable def zOwS (v o : Int32) : Prop := o = (-1) ∧ (∀ w : Nat, w < 13 → ¬ zOwT w = v) ∨ 0 ≤ o ∧ o < 13 ∧ zOwT o.toNatClampNeg = v
noncomputable def zSz (s e : Int32) : Nat := (e - s).toNatClampNeg
noncomputable def zTok (n : Int32) (f g : Nat → Int32) (a e k s v o : Int32) : Prop :=
  zSk n g a s ∧ s ≤ e ∧ e ≤ n ∧
  (zK n g s = 0 ∧ e = s ∧ k = 0 ∧ o = (-1)
  ∨ zK n g s = 3 ∧ e = s + 1 ∧ k = 3 ∧ v = f s.toNatClampNeg ∧ o = (-1)
  ∨ zK n g s = 1 ∧ zRun n g 1 s e ∧ (zJn n g a s ∨ 6 < e - s) ∧ k = 4 ∧ o = (-1)
  ∨ zK n g s = 1 ∧ zRun n g 1 s e ∧ ¬ zJn n g a s ∧ e - s ≤ 6 ∧ k = 1 ∧ v.toInt = zCV (zLV g s.toNatClampNeg (zSz s e)) ∧ zOwS v o
  ∨ zK n g s = 2 ∧ zRun n g 2 s e ∧ (zJn n g a s ∨ 8 < e - s) ∧ k = 4 ∧ o = (-1)
  ∨ zK n g s = 2 ∧ zRun n g 2 s e ∧ ¬ zJn n g a s ∧ e - s ≤ 8 ∧ k = 2 ∧ v.toInt = zDV g s.toNatClampNeg (zSz s e) ∧ o = (-1))
/-! what the loop over a run keeps -/
noncomputable def zRd (n : Int32) (f g : Nat → Int32) (k s : Int32) (z p v : Int32) : Prop :=
  s ≤ p ∧ p ≤ n ∧ z = p - s ∧ (∀ i : Int32, s ≤ i → i < p → zK n g i = k) ∧ (k = 3 → z ≤ 1 ∧ (z = 1 → v = f s.toNatClampNeg)) ∧ (k = 1 → z ≤ 6 → v.toInt = zCV (zLV g s.toNatClampNeg z.toNatClampNeg)) ∧ (k = 2 → z ≤ 8 → v.toInt = zDV g s.toNatClampNeg z.toNatClampNeg)
theorem zRd_0 {n s k : Int32} {f g : Nat → Int32} (hs : s ≤ n) : zRd n f g k s 0 s 0 := by
  refine ⟨by grind, hs, by grind, fun i h1 h2 => by grind, fun _ => ⟨by decide, fun h => absurd h (by decide)⟩, fun _ _ => ?_, fun _ _ => ?_⟩
  · rw [zi_0, zn01.1]; rfl
  · rw [zi_0, zn01.1]; rfl
theorem zNx {p : Int32} (h0 : 0 ≤ p) (h1 : p ≤ 1200) : (p + 1).toNatClampNeg = p.toNatClampNeg + 1 := by
  have a0 := Int32.le_iff_toInt_le.mp h0
  have a1 := Int32.le_iff_toInt_le.mp h1
  rw [zi_0] at a0
  rw [show (1200 : Int32).toInt = 1200 by decide +kernel] at a1
  have e := zo_add (x := p) (y := 1) (z := p + 1) rfl rfl zi_1' (by omega)
  show (p + 1).toInt.toNat = p.toInt.toNat + 1
  omega
theorem zAdN {s p : Int32} (h0 : 0 ≤ s) (h1 : s ≤ p) (h2 : p ≤ 1200) : s.toNatClampNeg + (p - s).toNatClampNeg = p.toNatClampNeg ∧ ((p - s).toNatClampNeg : Int) = (p - s).toInt ∧ (p - s).toInt = p.toInt - s.toInt ∧ 0 ≤ s.toInt ∧ s.toInt ≤ p.toInt ∧ p.toInt ≤ 1200 := by
  have a0 := Int32.le_iff_toInt_le.mp h0
  have a1 := Int32.le_iff_toInt_le.mp h1
  have a2 := Int32.le_iff_toInt_le.mp h2
  rw [zi_0] at a0
  rw [show (1200 : Int32).toInt = 1200 by decide +kernel] at a2
  have e := zo_sub (x := p) (y := s) (z := p - s) rfl rfl rfl (by omega)
  refine ⟨?_, ?_, e, a0, a1, a2⟩
  · show s.toInt.toNat + (p - s).toInt.toNat = p.toInt.toNat
    omega
  · show (((p - s).toInt.toNat : Nat) : Int) = (p - s).toInt
    omega
theorem zRun_l {n k s p : Int32} {g : Nat → Int32} (h0 : 0 ≤ s) (h1 : s ≤ p) (h2 : p ≤ n) (hn : n ≤ 1200) (hr : ∀ i : Int32, s ≤ i → i < p → zK n g i = k) (i : Nat) (hi : i < (p - s).toNatClampNeg) : zKd (g (s.toNatClampNeg + i)) = k := by
  obtain ⟨a1, a2, a3, a4, a5, a6⟩ := zAdN h0 h1 (by grind : p ≤ 1200)
  have hlt : i < 1200 := by omega
  have e1 : (Int32.ofNat i).toInt = (i : Int) := Int32.toInt_ofNat_of_lt (by omega)
  have e2 := zo_add (x := s) (y := Int32.ofNat i) (z := s + Int32.ofNat i) rfl rfl e1 (by omega)
  have e3 : s ≤ s + Int32.ofNat i := Int32.le_iff_toInt_le.mpr (by omega)
  have e4 : s + Int32.ofNat i < p := Int32.lt_iff_toInt_lt.mpr (by omega)
  have e5 := hr _ e3 e4
  rw [zK_at (by grind) (by grind)] at e5
  have e6 : (s + Int32.ofNat i).toNatClampNeg = s.toNatClampNeg + i := by
    show (s + Int32.ofNat i).toInt.toNat = s.toInt.toNat + i
    omega
  rw [e6] at e5
  exact e5
theorem zKd1 {c : Int32} (h : zKd c = 1) : 97 ≤ c.toInt ∧ c.toInt ≤ 122 := by
  have h1 : 97 ≤ c ∧ c ≤ 122 := by
    have := zKd_c c
    grind
  have a := Int32.le_iff_toInt_le.mp h1.1
  have b := Int32.le_iff_toInt_le.mp h1.2
  rw [show (97 : Int32).toInt = 97 by decide +kernel] at a
  rw [show (122 : Int32).toInt = 122 by decide +kernel] at b
  exact ⟨a, b⟩
theorem zKd2 {c : Int32} (h : zKd c = 2) : 48 ≤ c.toInt ∧ c.toInt ≤ 57 := by
  have h1 : 48 ≤ c ∧ c ≤ 57 := by
    have := zKd_c c
    grind
  have a := Int32.le_iff_toInt_le.mp h1.1
  have b := Int32.le_iff_toInt_le.mp h1.2
  rw [show (48 : Int32).toInt = 48 by decide +kernel] at a
  rw [show (57 : Int32).toInt = 57 by decide +kernel] at b
  exact ⟨a, b⟩
theorem zRd_s {n s k z p v : Int32} {f g : Nat → Int32} (hn : n ≤ 1200) (hs : 0 ≤ s) (ht : zTp f g) (hp : p < n) (hk : zKd (g p.toNatClampNeg) = k) (h3 : k = 3 → z = 0) (H : zRd n f g k s z p v) : zw (fn_X10_addByte (f p.toNatClampNeg) (z + 1) k v) (fun r => zRd n f g k s (z + 1) (p + 1) r) := by
  obtain ⟨H1, H2, H3, H4, H5, H6, H7⟩ := H
  have hpp : 0 ≤ p := by grind
  obtain ⟨a1, a2, a3, a4, a5, a6⟩ := zAdN hs H1 (by grind : p ≤ 1200)
  have hall : ∀ i : Int32, s ≤ i → i < p + 1 → zK n g i = k := by
    intro i i1 i2
    by_cases c : i = p
    · rw [c, zK_at hpp hp]; exact hk
    · exact H4 i i1 (by grind)
  have hz : z + 1 = p + 1 - s := by grind
  have hzr : 0 ≤ z ∧ z ≤ 1200 := by grind
  have hzn := zNx hzr.1 hzr.2
  have hf : 0 ≤ g p.toNatClampNeg → g p.toNatClampNeg ≤ 127 → f p.toNatClampNeg = g p.toNatClampNeg := by
    have := ht p.toNatClampNeg
    grind
  have hkc := zKd_c (g p.toNatClampNeg)
  unfold fn_X10_addByte
  refine zw_if (fun c => ?_) (fun c => ?_)
  · refine zw_some ⟨by grind, by grind, hz, hall, fun _ => ⟨?_, fun _ => ?_⟩, fun q => ?_, fun q => ?_⟩
    · have := h3 c
      grind
    · have := h3 c
      have : p = s := by grind
      rw [this]
    · exact absurd (q.symm.trans c) (by decide)
    · exact absurd (q.symm.trans c) (by decide)
  refine zw_zj (fun _ => k = 1 → 6 < z + 1) (fun s_2 hs2 => ?_) (fun j_2 hj2 => ?_)
  · refine zw_if (fun d => ?_) (fun d => ?_)
    · refine zw_if (fun e => ?_) (fun e => ?_)
      · refine zw_some ⟨by grind, by grind, hz, hall, fun q => absurd q c, fun q => absurd (q.symm.trans d) (by decide), fun _ q => absurd q (by grind)⟩
      · refine zw_some ⟨by grind, by grind, hz, hall, fun q => absurd q c, fun q => absurd (q.symm.trans d) (by decide), fun _ _ => ?_⟩
        have hz7 : z ≤ 7 := by grind
        have h8 := H7 d (by grind)
        have hb := zDV_b (g := g) (s := s.toNatClampNeg) z.toNatClampNeg (fun i hi => zKd2 (by
          rw [H3] at hi
          rw [← d]
          exact zRun_l hs H1 H2 hn H4 i hi))
        have hz7' : z.toNatClampNeg ≤ 7 := zcl z 7 7 (by decide) hz7
        have hp7 := zp10 hz7'
        rw [show (10 : Int) ^ 7 = 10000000 by decide] at hp7
        have hc := hf (by grind) (by grind)
        have hk2 := zKd2 (hk.trans d)
        have q1 := zo_mul (x := v) (y := 10) (z := v * 10) rfl h8 (by decide +kernel : (10 : Int32).toInt = 10) (by omega)
        have q2 := zo_add (x := v * 10) (y := f p.toNatClampNeg) (z := v * 10 + f p.toNatClampNeg) rfl q1 (by rw [hc]) (by omega)
        have q3 := zo_sub (x := v * 10 + f p.toNatClampNeg) (y := 48) (z := v * 10 + f p.toNatClampNeg - 48) rfl q2 (by decide +kernel : (48 : Int32).toInt = 48) (by omega)
        rw [q3, hzn]
        show _ = zDV g s.toNatClampNeg z.toNatClampNeg * 10 + ((g (s.toNatClampNeg + z.toNatClampNeg)).toInt - 48)
        rw [show s.toNatClampNeg + z.toNatClampNeg = p.toNatClampNeg by rw [H3]; exact a1]
        omega
    · refine zw_some ⟨by grind, by grind, hz, hall, fun q => absurd q c, fun q => ?_, fun q => absurd q d⟩
      have := hs2 q
      intro q2
      exact absurd q2 (by grind)
  refine zw_if (fun d => ?_) (fun d => hj2 () (fun q => absurd q d))
  refine zw_if (fun e => hj2 () (fun _ => e)) (fun e => ?_)
  refine zw_some ⟨by grind, by grind, hz, hall, fun q => absurd q c, fun _ _ => ?_, fun q => absurd (q.symm.trans d) (by decide)⟩
  have hz5 : z ≤ 5 := by grind
  have hz5' : z.toNatClampNeg ≤ 5 := zcl z 5 5 (by decide) hz5
  have hc := hf (by grind) (by grind)
  have hzi : z.toInt = (z.toNatClampNeg : Int) := by rw [H3]; exact a2.symm
  have e1 := zo_add (x := z) (y := 1) (z := z + 1) rfl hzi zi_1' (by omega)
  rw [hzn]
  refine zLet z.toNatClampNeg (by omega) (H6 d (by grind)) (fun i hi => zKd1 (by
    rw [H3] at hi
    rw [← d]
    exact zRun_l hs H1 H2 hn H4 i hi)) ?_ ?_ e1
  · rw [show s.toNatClampNeg + z.toNatClampNeg = p.toNatClampNeg by rw [H3]; exact a1]
    exact hc
  · rw [hc]
    exact zKd1 (hk.trans d)
set_option maxHeartbeats 2000000 in
theorem zAdv {n a k0 : Int32} {f g own : Nat → Int32} (hn : n ≤ 1200) (ha : 0 ≤ a ∧ a ≤ n) (ht : zTp f g) (ho : ∀ w : Nat, w < 13 → own w = zOwT w) (hk : (k0 = 1 ∨ k0 = 2) ↔ (zK n g (a - 1) = 1 ∨ zK n g (a - 1) = 2)) : zw (fn_X10_advance n a k0 f own) (fun r => zTok n f g a r.1 r.2.1 r.2.2.1 r.2.2.2.1 r.2.2.2.2) := by
  unfold fn_X10_advance
  simp only [zKd_fn, zb_some]
  refine zw_zj (fun s_1 => ¬ s_1 = 0 ↔ (zK n g (a - 1) = 1 ∨ zK n g (a - 1) = 2)) (fun s_1 hs1 => ?_) (fun j_1 hj1 => ?_)
  · refine zw_zl32 (fun s_2 => a ≤ s_2 ∧ s_2 ≤ n ∧ (∀ i : Int32, a ≤ i → i < s_2 → zK n g i = 5)) (fun s_2 => n - s_2) ⟨by grind, ha.2, fun i h1 h2 => by grind⟩ (by (try dsimp only); grind) (fun s_2 back_2 H2 h2 => ?_)
    obtain ⟨G1, G2, G3⟩ := H2
    have hs0 : 0 ≤ s_2 := by grind
    refine zw_zj (fun _ => ¬ zK n g s_2 = 5) (fun s_3 hs3 => ?_) (fun j_3 hj3 => ?_)
    · have hsk : zSk n g a s_2 := ⟨G1, G3, hs3⟩
      refine zw_zj (fun s_4 => s_4 = zK n g s_2) (fun s_4 hs4 => ?_) (fun j_4 hj4 => ?_)
      · refine zw_zl32 (fun s_5 => zRd n f g s_4 s_2 s_5.1 s_5.2.1 s_5.2.2) (fun s_5 => n - s_5.2.1) (zRd_0 G2) (by (try dsimp only); grind) (fun s_5 back_5 H5 h5 => ?_)
        obtain ⟨z, p, v⟩ := s_5
        dsimp only at H5 h5 ⊢
        have H5' := H5
        obtain ⟨D1, D2, D3, D4, D5, D6, D7⟩ := H5
        refine zw_zj (fun _ => ¬ zK n g p = s_4 ∨ s_4 = 3 ∧ ¬ z = 0 ∨ n ≤ p) (fun s_6 hs6 => ?_) (fun j_6 hj6 => ?_)
        · -- behind the run
          have hfin : ∀ K : Int32, (K = s_4 ∧ ¬ (zJn n g a s_2 ∧ (s_4 = 1 ∨ s_4 = 2)) ∧ (s_4 = 1 → z ≤ 6) ∧ (s_4 = 2 → z ≤ 8) ∨ K = 4 ∧ (s_4 = 1 ∧ (zJn n g a s_2 ∨ 6 < z) ∨ s_4 = 2 ∧ (zJn n g a s_2 ∨ 8 < z))) → ∀ o : Int32, (K = 1 → zOwS v o) → (¬ K = 1 → o = (-1)) → zTok n f g a p K s_2 v o := by
            intro K hK o o1 o2
            have hzz : zSz s_2 p = z.toNatClampNeg := by unfold zSz; rw [D3]
            have hrun : s_4 = 1 ∨ s_4 = 2 → zRun n g s_4 s_2 p := by
              intro q
              refine ⟨D1, D4, ?_⟩
              rcases hs6 with q1 | q1 | q1
              · exact q1
              · grind
              · rw [zK_end q1]
                grind
            refine ⟨hsk, D1, D2, ?_⟩
            by_cases c0 : s_4 = 0
            · have e0 : n ≤ s_2 := by
                by_cases q : n ≤ s_2
                · exact q
                · have := zKd_c (g s_2.toNatClampNeg)
                  rw [← zK_at (n := n) hs0 (by grind), ← hs4] at this
                  grind
              exact Or.inl ⟨by rw [← hs4]; exact c0, by grind, by grind, o2 (by grind)⟩
            by_cases c3 : s_4 = 3
            · have hin := zK_in (n := n) (g := g) (i := s_2) (by rw [← hs4]; exact c0)
              have hz1 : z = 1 := by
                have := (D5 c3).1
                by_cases q : z = 0
                · have qp : p = s_2 := by grind
                  rcases hs6 with q1 | q1 | q1
                  · rw [qp] at q1; exact absurd hs4.symm q1
                  · exact absurd q q1.2
                  · grind
                · grind
              refine Or.inr (Or.inl ⟨by rw [← hs4]; exact c3, by grind, by grind, (D5 c3).2 hz1, o2 (by grind)⟩)
            by_cases c1 : s_4 = 1
            · have hr := hrun (Or.inl c1)
              rw [c1] at hr
              have e1 : zK n g s_2 = 1 := by rw [← hs4]; exact c1
              rcases hK with ⟨q1, q2, q3, q4⟩ | ⟨q1, q2⟩
              · refine Or.inr (Or.inr (Or.inr (Or.inl ⟨e1, hr, fun q => q2 ⟨q, Or.inl c1⟩, by have := q3 c1; grind, by grind, ?_, o1 (by grind)⟩)))
                rw [hzz]
                exact D6 c1 (q3 c1)
              · refine Or.inr (Or.inr (Or.inl ⟨e1, hr, ?_, q1, o2 (by grind)⟩))
                rcases q2 with ⟨_, q2 | q2⟩ | ⟨q2, _⟩
                · exact Or.inl q2
                · exact Or.inr (by grind)
                · exact absurd (c1.symm.trans q2) (by decide)
            by_cases c2 : s_4 = 2
            · have hr := hrun (Or.inr c2)
              rw [c2] at hr
              have e1 : zK n g s_2 = 2 := by rw [← hs4]; exact c2
              rcases hK with ⟨q1, q2, q3, q4⟩ | ⟨q1, q2⟩
              · refine Or.inr (Or.inr (Or.inr (Or.inr (Or.inr ⟨e1, hr, fun q => q2 ⟨q, Or.inr c2⟩, by have := q4 c2; grind, by grind, ?_, o2 (by grind)⟩))))
                rw [hzz]
                exact D7 c2 (q4 c2)
              · refine Or.inr (Or.inr (Or.inr (Or.inr (Or.inl ⟨e1, hr, ?_, q1, o2 (by grind)⟩))))
                rcases q2 with ⟨q2, _⟩ | ⟨_, q2 | q2⟩
                · exact absurd (c2.symm.trans q2) (by decide)
                · exact Or.inl q2
                · exact Or.inr (by grind)
            · exfalso
              have hin := zK_in (n := n) (g := g) (i := s_2) (by rw [← hs4]; exact c0)
              have := zKd_c (g s_2.toNatClampNeg)
              rw [← zK_at (n := n) hin.1 hin.2, ← hs4] at this
              rw [← hs4] at hs3
              grind
          refine zw_zj (fun s_7 => ¬ s_7 = 0 ↔ (zJn n g a s_2 ∧ (s_4 = 1 ∨ s_4 = 2))) (fun s_7 hs7 => ?_) (fun j_7 hj7 => ?_)
          · refine zw_zj (fun s_8 => s_8 = s_4 ∧ ¬ (zJn n g a s_2 ∧ (s_4 = 1 ∨ s_4 = 2)) ∧ (s_4 = 1 → z ≤ 6) ∧ (s_4 = 2 → z ≤ 8) ∨ s_8 = 4 ∧ (s_4 = 1 ∧ (zJn n g a s_2 ∨ 6 < z) ∨ s_4 = 2 ∧ (zJn n g a s_2 ∨ 8 < z))) (fun s_8 hs8 => ?_) (fun j_8 hj8 => ?_)
            · refine zw_if (fun c => ?_) (fun c => ?_)
              · refine zw_zb0 (zFind ho) (fun o ho => ?_)
                exact zw_some (hfin s_8 hs8 o (fun _ => ho) (fun q => absurd c q))
              · exact zw_some (hfin s_8 hs8 (-1) (fun q => absurd q c) (fun _ => rfl))
            · refine zw_zj (fun _ => s_4 = 1 ∧ (zJn n g a s_2 ∨ 6 < z) ∨ s_4 = 2 ∧ (zJn n g a s_2 ∨ 8 < z)) (fun s_14 hs14 => hj8 4 (Or.inr ⟨rfl, hs14⟩)) (fun j_14 hj14 => ?_)
              refine zw_if (fun c => ?_) (fun c => ?_)
              · have hno : ¬ (zJn n g a s_2 ∧ (s_4 = 1 ∨ s_4 = 2)) := fun q => hs7.mpr q c
                refine zw_zj (fun _ => s_4 = 1 → z ≤ 6) (fun s_16 hs16 => ?_) (fun j_16 hj16 => ?_)
                · refine zw_if (fun d => ?_) (fun d => ?_)
                  · refine zw_if (fun e => ?_) (fun e => ?_)
                    · exact hj8 _ (Or.inl ⟨rfl, hno, hs16, fun _ => e⟩)
                    · exact hj14 () (Or.inr ⟨d, Or.inr (by grind)⟩)
                  · exact hj8 _ (Or.inl ⟨rfl, hno, hs16, fun q => absurd q d⟩)
                · refine zw_if (fun d => ?_) (fun d => hj16 () (fun q => absurd q d))
                  refine zw_if (fun e => ?_) (fun e => hj16 () (fun _ => by grind))
                  exact hj14 () (Or.inl ⟨d, Or.inr e⟩)
              · have hy := hs7.mp c
                refine hj14 () ?_
                rcases hy.2 with q | q
                · exact Or.inl ⟨q, Or.inl hy.1⟩
                · exact Or.inr ⟨q, Or.inl hy.1⟩
          · refine zw_zj (fun _ => ¬ (zJn n g a s_2 ∧ (s_4 = 1 ∨ s_4 = 2))) (fun s_21 hs21 => hj7 0 ⟨fun q => absurd rfl q, fun q => absurd q hs21⟩) (fun j_21 hj21 => ?_)
            refine zw_if (fun c => hj21 () (fun q => ?_)) (fun c => ?_)
            · exact hs1.mpr q.1.2 c
            refine zw_if (fun d => ?_) (fun d => hj21 () (fun q => d q.1.1))
            have hjn : zJn n g a s_2 := ⟨d, hs1.mp c⟩
            refine zw_zj (fun _ => s_4 = 1 ∨ s_4 = 2) (fun s_24 hs24 => hj7 1 ⟨fun _ => ⟨hjn, hs24⟩, fun _ => by decide⟩) (fun j_24 hj24 => ?_)
            refine zw_if (fun e => hj24 () (Or.inl e)) (fun e => ?_)
            refine zw_if (fun e2 => hj24 () (Or.inr e2)) (fun e2 => hj21 () (fun q => by grind))
        · -- one byte more
          refine zw_if (fun c => hj6 () (Or.inr (Or.inr c))) (fun c => ?_)
          have hp0 : 0 ≤ p := by grind
          refine zw_zg32 1200 (by decide) (by grind) ?_
          have hkf := zTp_kd ht p.toNatClampNeg
          have hkp := zK_at (n := n) (g := g) hp0 (by grind)
          refine zw_if (fun d => ?_) (fun d => hj6 () (Or.inl (by rw [hkp, ← hkf]; exact d)))
          refine zw_zj (fun _ => s_4 = 3 → z = 0) (fun s_34 hs34 => ?_) (fun j_34 hj34 => ?_)
          · refine zw_zg32 1200 (by decide) (by grind) ?_
            refine zw_zb0 (zRd_s hn hs0 ht (by grind) (by rw [← hkf]; exact d) hs34 H5') (fun o ho => ?_)
            exact h5 (z + 1, p + 1, o) ho (by (try dsimp only); grind) (by (try dsimp only); grind)
          · refine zw_if (fun e => ?_) (fun e => hj34 () (fun q => absurd q e))
            refine zw_if (fun e2 => hj34 () (fun _ => e2)) (fun e2 => hj6 () (Or.inr (Or.inl ⟨e, e2⟩)))
      · refine zw_if (fun c => hj4 0 (zK_end c).symm) (fun c => ?_)
        refine zw_zg32 1200 (by decide) (by grind) ?_
        exact hj4 _ (by rw [zK_at hs0 (by grind)]; exact zTp_kd ht _)
    · refine zw_if (fun c => hj3 () (by rw [zK_end c]; decide)) (fun c => ?_)
      refine zw_zg32 1200 (by decide) (by grind) ?_
      have hkf := zTp_kd ht s_2.toNatClampNeg
      have hkp := zK_at (n := n) (g := g) hs0 (by grind)
      refine zw_if (fun d => ?_) (fun d => hj3 () (by rw [hkp, ← hkf]; exact d))
      refine h2 _ ⟨by grind, by grind, fun i i1 i2 => ?_⟩ (by (try dsimp only); grind) (by (try dsimp only); grind)
      by_cases q : i = s_2
      · rw [q, hkp, ← hkf]; exact d
      · exact G3 i i1 (by grind)
  · refine zw_zj (fun _ => zK n g (a - 1) = 1 ∨ zK n g (a - 1) = 2) (fun s_55 hs55 => hj1 1 ⟨fun _ => hs55, fun _ => by decide⟩) (fun j_55 hj55 => ?_)
    refine zw_if (fun c => hj55 () (hk.mp (Or.inl c))) (fun c => ?_)
    refine zw_if (fun d => hj55 () (hk.mp (Or.inr d))) (fun d => ?_)
    exact hj1 0 ⟨fun q => absurd rfl q, fun q => by have := hk.mpr q; grind⟩
/-! the reference's own words: a match with the table, from place k on -/
noncomputable def zMt (g : Nat → Int32) (s e k : Nat) : Prop := ∃ m : Nat, k + m < 71 ∧ zTab (k + m) = 0 ∧ s + m = e ∧ (∀ j : Nat, j < m → g (s + j) - 96 = zTab (k + j) ∧ ¬ zTab (k + j) = 0)
theorem zPair_un {n k k' : Int32} (h : zPair n k) (h' : zPair n k') : k = k' := by
  unfold zPair at h h'
  rcases h with ⟨a, e⟩ | ⟨a, e⟩ | ⟨a, e⟩ | ⟨a, e⟩ | ⟨a, e⟩ | ⟨a, e⟩ | ⟨a, e⟩ | ⟨a, e⟩ | ⟨a, e⟩ | ⟨a, e⟩ | ⟨a, e⟩ | ⟨a, e⟩ | ⟨a, e⟩ | ⟨a, e⟩ <;> (subst a; subst e; rcases h' with ⟨a, e⟩ | ⟨a, e⟩ | ⟨a, e⟩ | ⟨a, e⟩ | ⟨a, e⟩ | ⟨a, e⟩ | ⟨a, e⟩ | ⟨a, e⟩ | ⟨a, e⟩ | ⟨a, e⟩ | ⟨a, e⟩ | ⟨a, e⟩ | ⟨a, e⟩ | ⟨a, e⟩ <;> first | exact e.symm | exact absurd a (by decide))
theorem zAdd2 {x y : Int32} {n : Int} (hx : 0 ≤ x.toInt) (hy : 0 ≤ y.toInt) (hn : x.toInt + y.toInt ≤ n) (h : n ≤ 100000) : (x + y).toInt = x.toInt + y.toInt ∧ (x + y).toNatClampNeg = x.toNatClampNeg + y.toNatClampNeg := by
  have e := zo_add (x := x) (y := y) (z := x + y) rfl rfl rfl (by omega)
  refine ⟨e, ?_⟩
  show (x + y).toInt.toNat = x.toInt.toNat + y.toInt.toNat
  omega
theorem zi_b {x c : Int32} {n : Int} (hc : c.toInt = n) (h0 : 0 ≤ x) (h1 : x ≤ c) : 0 ≤ x.toInt ∧ x.toInt ≤ n := by
  have a := Int32.le_iff_toInt_le.mp h0
  have b := Int32.le_iff_toInt_le.mp h1
  rw [zi_0] at a
  omega
theorem z1200 : (1200 : Int32).toInt = 1200 := by decide +kernel
theorem z70 : (70 : Int32).toInt = 70 := by decide +kernel
set_option maxHeartbeats 1000000 in
theorem zOwnL {v0_6 v0_7 : Int32} {f1 f2 : Nat → Int32} (h_v0_6 : 0 ≤ v0_6 ∧ v0_6 ≤ 1200) (h_v0_7 : 0 ≤ v0_7 ∧ v0_7 ≤ 1200) (hT : (∀ k : Nat, k < 71 → f1 k = zTab k)) : zw (fn_X12_own v0_6 v0_7 f1 f2) (fun r => r = (-1) ∧ (∀ n k : Int32, zPair n k → 0 ≤ n → n ≤ 12 → ¬ zMt f2 v0_7.toNatClampNeg v0_6.toNatClampNeg k.toNatClampNeg) ∨ 0 ≤ r ∧ r ≤ 12 ∧ (∃ k : Int32, zPair r k ∧ zMt f2 v0_7.toNatClampNeg v0_6.toNatClampNeg k.toNatClampNeg)) := by
  obtain ⟨b6a, b6b⟩ := zi_b z1200 h_v0_6.1 h_v0_6.2
  obtain ⟨b7a, b7b⟩ := zi_b z1200 h_v0_7.1 h_v0_7.2
  unfold fn_X12_own
  refine zw_zl32 (fun s_1 => zPair s_1.2 s_1.1 ∧ 0 ≤ s_1.2 ∧ s_1.2 ≤ 13 ∧ (∀ n k : Int32, zPair n k → 0 ≤ n → n < s_1.2 → ¬ zMt f2 v0_7.toNatClampNeg v0_6.toNatClampNeg k.toNatClampNeg)) (fun s_1 => 13 - s_1.2) (by dsimp only; exact ⟨Or.inl ⟨rfl, rfl⟩, by decide, by decide, fun n k _ h1 h2 => by grind⟩) (by (try dsimp only); decide) (fun s_1 back_1 H1 h1 => ?_)
  obtain ⟨kk, nn⟩ := s_1
  dsimp only at H1 h1 ⊢
  obtain ⟨hpair, hn0, hn1, hno⟩ := H1
  refine zw_if (fun c1 => ?_) (fun c1 => ?_)
  · exact zw_some (Or.inl ⟨rfl, fun n k hp a b => hno n k hp a (by grind)⟩)
  obtain ⟨e, he0, he1, he2, he3, he4, he5⟩ := zTabW f1 hT nn kk hpair (by grind)
  obtain ⟨bk1, bk2⟩ := zi_b (x := kk) z70 he0 (by grind)
  have huniq : ∀ k : Int32, zPair nn k → k = kk := by
    intro k hk
    exact zPair_un hk hpair
  refine zw_zl32 (fun s_3 => 0 ≤ s_3 ∧ kk + s_3 ≤ e ∧ s_3 ≤ 70 ∧ (∀ j : Nat, (j : Int) < s_3.toInt → f2 (v0_7.toNatClampNeg + j) - 96 = zTab (kk.toNatClampNeg + j) ∧ ¬ zTab (kk.toNatClampNeg + j) = 0)) (fun s_3 => e - (kk + s_3)) ⟨by decide, by grind, by decide, fun j hj => by rw [zi_0] at hj; omega⟩ (by (try dsimp only); grind) (fun s_3 back_3 H3 h3 => ?_)
  obtain ⟨m0, m1, m2, m3⟩ := H3
  obtain ⟨bm1, bm2⟩ := zi_b (x := s_3) z70 m0 m2
  have hsum : kk.toInt + s_3.toInt ≤ 70 := by
    have q1 := zo_add (x := kk) (y := s_3) (z := kk + s_3) rfl rfl rfl (by omega)
    have q2 := Int32.le_iff_toInt_le.mp m1
    have q3 := Int32.le_iff_toInt_le.mp he2
    rw [z70] at q3
    omega
  obtain ⟨ks1, ks2⟩ := zAdd2 (x := kk) (y := s_3) bk1 bm1 hsum (by omega)
  obtain ⟨vs1, vs2⟩ := zAdd2 (x := v0_7) (y := s_3) (n := 1270) b7a bm1 (by omega) (by omega)
  have hks : f1 (kk + s_3).toNatClampNeg = zTab (kk.toNatClampNeg + s_3.toNatClampNeg) := by
    rw [ks2]
    refine hT _ ?_
    show kk.toInt.toNat + s_3.toInt.toNat < 71
    omega
  have hms : (s_3.toNatClampNeg : Int) = s_3.toInt := by
    show ((s_3.toInt.toNat : Nat) : Int) = _
    omega
  -- a loop that passes over the rest of this word
  have J : (¬ zMt f2 v0_7.toNatClampNeg v0_6.toNatClampNeg kk.toNatClampNeg) → zw (zl (fun (s_8 : Int32) back_8 => (zg s_8 71 (if (f1 s_8.toNatClampNeg) = 0 then (back_1 ((s_8 + 1), (nn + 1))) else (back_8 (s_8 + 1))))) 100000 kk) (fun r => r = (-1) ∧ (∀ n k : Int32, zPair n k → 0 ≤ n → n ≤ 12 → ¬ zMt f2 v0_7.toNatClampNeg v0_6.toNatClampNeg k.toNatClampNeg) ∨ 0 ≤ r ∧ r ≤ 12 ∧ (∃ k : Int32, zPair r k ∧ zMt f2 v0_7.toNatClampNeg v0_6.toNatClampNeg k.toNatClampNeg)) := by
    intro hnm
    refine zw_zl32 (fun s_8 => kk ≤ s_8 ∧ s_8 ≤ e) (fun s_8 => e - s_8) (by (try dsimp only); grind) (by (try dsimp only); grind) (fun s_8 back_8 H8 h8 => ?_)
    refine zw_zg32 71 (by decide) (by grind) ?_
    refine zw_if (fun c2 => ?_) (fun c2 => ?_)
    · have hq : s_8 = e := by grind
      rw [hq]
      refine h1 _ ⟨he5, by (try dsimp only); grind, by (try dsimp only); grind, fun n k hp a b => ?_⟩ (by (try dsimp only); grind) (by (try dsimp only); grind)
      by_cases q : n = nn
      · rw [q] at hp
        rw [huniq k hp]
        exact hnm
      · exact hno n k hp a (by dsimp only at b; grind)
    · have hq : ¬ s_8 = e := by intro hq; rw [hq] at c2; exact c2 he3
      exact h8 _ (by grind) (by grind) (by grind)
  refine zw_zg32 71 (by decide) (by grind) ?_
  refine zw_zj (fun _ => zTab (kk.toNatClampNeg + s_3.toNatClampNeg) = 0 ∨ v0_6.toNatClampNeg ≤ v0_7.toNatClampNeg + s_3.toNatClampNeg ∨ ¬ f2 (v0_7.toNatClampNeg + s_3.toNatClampNeg) - 96 = zTab (kk.toNatClampNeg + s_3.toNatClampNeg)) (fun s_5 hs5 => ?_) (fun j_5 hj5 => ?_)
  · refine zw_zg32 71 (by decide) (by grind) ?_
    have hex : ¬ (zTab (kk.toNatClampNeg + s_3.toNatClampNeg) = 0 ∧ v0_7.toNatClampNeg + s_3.toNatClampNeg = v0_6.toNatClampNeg) → ¬ zMt f2 v0_7.toNatClampNeg v0_6.toNatClampNeg kk.toNatClampNeg := by
      intro hq ⟨m, w1, w2, w3, w4⟩
      by_cases d1 : m < s_3.toNatClampNeg
      · exact (m3 m (by omega)).2 w2
      · by_cases d2 : m = s_3.toNatClampNeg
        · rw [d2] at w2 w3
          exact hq ⟨w2, w3⟩
        · have w5 := w4 s_3.toNatClampNeg (by omega)
          rcases hs5 with q | q | q
          · exact w5.2 q
          · omega
          · exact q w5.1
    refine zw_zj (fun _ => ¬ zMt f2 v0_7.toNatClampNeg v0_6.toNatClampNeg kk.toNatClampNeg) (fun s_7 hs7 => J hs7) (fun j_7 hj7 => ?_)
    refine zw_if (fun c3 => ?_) (fun c3 => hj7 _ (hex (fun q => c3 (hks.trans q.1))))
    refine zw_if (fun c4 => ?_) (fun c4 => hj7 _ (hex (fun q => c4 ?_)))
    · refine zw_some (Or.inr ⟨hn0, by grind, kk, hpair, s_3.toNatClampNeg, ?_, hks.symm.trans c3, ?_, fun j hj => m3 j (by omega)⟩)
      · show kk.toInt.toNat + s_3.toInt.toNat < 71
        omega
      · rw [← vs2, c4]
    · apply Int32.toInt_inj.mp
      have := q.2
      have w1 : ((v0_6.toNatClampNeg : Nat) : Int) = v0_6.toInt := by
        show ((v0_6.toInt.toNat : Nat) : Int) = _
        omega
      have w2 : ((v0_7.toNatClampNeg : Nat) : Int) = v0_7.toInt := by
        show ((v0_7.toInt.toNat : Nat) : Int) = _
        omega
      omega
  refine zw_if (fun c3 => hj5 _ (Or.inl (hks.symm.trans c3))) (fun c3 => ?_)
  refine zw_if (fun c4 => hj5 _ (Or.inr (Or.inl ?_))) (fun c4 => ?_)
  · have := Int32.le_iff_toInt_le.mp c4
    show v0_6.toInt.toNat ≤ v0_7.toInt.toNat + s_3.toInt.toNat
    omega
  refine zw_zg32 1200 (by decide) (by grind) ?_
  rw [hks, vs2]
  refine zw_if (fun c5 => ?_) (fun c5 => hj5 _ (Or.inr (Or.inr c5)))
  have hq : ¬ kk + s_3 = e := by intro hq; rw [hq] at c3; exact c3 he3
  refine h3 _ ⟨by grind, by grind, by grind, fun j hj => ?_⟩ (by grind) (by grind)
  have e1 := zo_add (x := s_3) (y := 1) (z := s_3 + 1) rfl rfl zi_1' (by omega)
  rw [e1] at hj
  by_cases q : (j : Int) < s_3.toInt
  · exact m3 j q
  · have : j = s_3.toNatClampNeg := by omega
    rw [this]
    exact ⟨c5, fun q => c3 (hks.trans q)⟩
/-! a word is an own word just when its number is -/
theorem zCV_inj {l m : Nat → Int} (h : zCV l = zCV m) (h1 : ∀ i : Nat, 0 ≤ l i ∧ l i < 32) (h2 : ∀ i : Nat, 0 ≤ m i ∧ m i < 32) (i : Nat) (hi : i < 6) : l i = m i := by
  unfold zCV at h
  have a0 := h1 0
  have a1 := h1 1
  have a2 := h1 2
  have a3 := h1 3
  have a4 := h1 4
  have a5 := h1 5
  have b0 := h2 0
  have b1 := h2 1
  have b2 := h2 2
  have b3 := h2 3
  have b4 := h2 4
  have b5 := h2 5
  match i, hi with
  | 0, _ => omega
  | 1, _ => omega
  | 2, _ => omega
  | 3, _ => omega
  | 4, _ => omega
  | 5, _ => omega
noncomputable def zTL (k len i : Nat) : Int := if i < len then (zTab (k + i)).toInt else 0
theorem zLV_b {g : Nat → Int32} {s K : Nat} (hl : ∀ i : Nat, i < K → 97 ≤ (g (s + i)).toInt ∧ (g (s + i)).toInt ≤ 122) (i : Nat) : 0 ≤ zLV g s K i ∧ zLV g s K i < 32 := by
  unfold zLV
  split
  · have := hl i (by assumption)
    omega
  · omega
theorem zTL_b {k len : Nat} (h : ∀ i : Nat, i < len → 1 ≤ (zTab (k + i)).toInt ∧ (zTab (k + i)).toInt ≤ 26) (i : Nat) : 0 ≤ zTL k len i ∧ zTL k len i < 32 := by
  unfold zTL
  split
  · have := h i (by assumption)
    omega
  · omega
theorem zMt_v {g : Nat → Int32} {s e k len : Nat} (hlen : len ≤ 6) (ht : ∀ i : Nat, i < len → 1 ≤ (zTab (k + i)).toInt ∧ (zTab (k + i)).toInt ≤ 26) (hz : zTab (k + len) = 0) (hk : k + len < 71) (hse : s ≤ e) (hl : ∀ i : Nat, i < e - s → 97 ≤ (g (s + i)).toInt ∧ (g (s + i)).toInt ≤ 122) : zMt g s e k ↔ e - s ≤ 6 ∧ zCV (zLV g s (e - s)) = zCV (zTL k len) := by
  have hnz : ∀ i : Nat, i < len → ¬ zTab (k + i) = 0 := by
    intro i hi q
    have := (ht i hi).1
    rw [q] at this
    exact absurd this (by decide)
  have h96 : (96 : Int32).toInt = 96 := by decide +kernel
  constructor
  · intro ⟨m, w1, w2, w3, w4⟩
    have hm : m = len := by
      by_cases c : m < len
      · exact absurd w2 (hnz m c)
      · by_cases d : len < m
        · exact absurd hz (w4 len d).2
        · omega
    subst hm
    have hm2 : e - s = m := by omega
    refine ⟨by omega, ?_⟩
    have : zLV g s (e - s) = zTL k m := by
      funext i
      unfold zLV zTL
      rw [hm2]
      split
      · have q := (w4 i (by assumption)).1
        have q2 := hl i (by omega)
        rw [← q]
        have q3 := zo_sub (x := g (s + i)) (y := 96) (z := g (s + i) - 96) rfl rfl h96 (by omega)
        omega
      · rfl
    rw [this]
  · intro ⟨w1, w2⟩
    have hi := zCV_inj w2 (zLV_b hl) (zTL_b ht)
    have hm : e - s = len := by
      by_cases c : e - s < len
      · have := hi (e - s) (by omega)
        unfold zLV zTL at this
        rw [if_neg (by omega), if_pos c] at this
        have := ht _ c
        omega
      · by_cases d : len < e - s
        · have := hi len (by omega)
          unfold zLV zTL at this
          rw [if_pos d, if_neg (by omega)] at this
          have := hl _ d
          omega
        · omega
    refine ⟨len, hk, hz, by omega, fun j hj => ⟨?_, hnz j hj⟩⟩
    have q := hi j (by omega)
    unfold zLV zTL at q
    rw [if_pos (by omega), if_pos hj] at q
    have q2 := hl j (by omega)
    have q3 := zo_sub (x := g (s + j)) (y := 96) (z := g (s + j) - 96) rfl rfl h96 (by omega)
    apply Int32.toInt_inj.mp
    omega
noncomputable def zLenT (n : Nat) : Nat := ([6, 4, 4, 4, 4, 5, 3, 3, 3, 5, 5, 6, 6] : List Nat).getD n 0
noncomputable def zStT (n : Nat) : Nat := ([0, 7, 12, 17, 22, 27, 33, 37, 41, 45, 51, 57, 64] : List Nat).getD n 0
theorem zTabOk : ∀ n : Nat, n < 13 → zLenT n ≤ 6 ∧ zTab (zStT n + zLenT n) = 0 ∧ zStT n + zLenT n < 71 ∧ (∀ i : Nat, i < 6 → i < zLenT n → 1 ≤ (zTab (zStT n + i)).toInt ∧ (zTab (zStT n + i)).toInt ≤ 26) ∧ (zOwT n).toInt = zCV (zTL (zStT n) (zLenT n)) := by decide +kernel
theorem zPair_n {n k : Int32} (h : zPair n k) (h0 : 0 ≤ n) (h1 : n ≤ 12) : n.toNatClampNeg < 13 ∧ k.toNatClampNeg = zStT n.toNatClampNeg := by
  unfold zPair at h
  rcases h with ⟨rfl, rfl⟩ | ⟨rfl, rfl⟩ | ⟨rfl, rfl⟩ | ⟨rfl, rfl⟩ | ⟨rfl, rfl⟩ | ⟨rfl, rfl⟩ | ⟨rfl, rfl⟩ | ⟨rfl, rfl⟩ | ⟨rfl, rfl⟩ | ⟨rfl, rfl⟩ | ⟨rfl, rfl⟩ | ⟨rfl, rfl⟩ | ⟨rfl, rfl⟩ | ⟨rfl, rfl⟩
  all_goals first | decide +kernel | exact absurd h1 (by decide)
theorem zPair_of (w : Nat) (h : w < 13) : zPair (Int32.ofNat w) (Int32.ofNat (zStT w)) ∧ 0 ≤ Int32.ofNat w ∧ Int32.ofNat w ≤ 12 ∧ (Int32.ofNat (zStT w)).toNatClampNeg = zStT w := by
  unfold zPair
  match w, h with
  | 0, _ => decide +kernel
  | 1, _ => decide +kernel
  | 2, _ => decide +kernel
  | 3, _ => decide +kernel
  | 4, _ => decide +kernel
  | 5, _ => decide +kernel
  | 6, _ => decide +kernel
  | 7, _ => decide +kernel
  | 8, _ => decide +kernel
  | 9, _ => decide +kernel
  | 10, _ => decide +kernel
  | 11, _ => decide +kernel
  | 12, _ => decide +kernel
theorem zOwnM {e s : Int32} {tab g : Nat → Int32} (he : 0 ≤ e ∧ e ≤ 1200) (hs : 0 ≤ s ∧ s ≤ 1200) (hse : s ≤ e) (hT : (∀ k : Nat, k < 71 → tab k = zTab k)) (hl : ∀ i : Nat, i < zSz s e → zKd (g (s.toNatClampNeg + i)) = 1) : zw (fn_X12_own e s tab g) (fun r => (-1) ≤ r ∧ r ≤ 12 ∧ (6 < e - s → r = (-1)) ∧ (∀ v : Int32, e - s ≤ 6 → v.toInt = zCV (zLV g s.toNatClampNeg (zSz s e)) → zOwS v r)) := by
  obtain ⟨a1, a2, a3, a4, a5, a6⟩ := zAdN hs.1 hse he.2
  have hz : e.toNatClampNeg - s.toNatClampNeg = zSz s e := by unfold zSz; omega
  have h6 : e - s ≤ 6 ↔ zSz s e ≤ 6 := by
    rw [Int32.le_iff_toInt_le, show (6 : Int32).toInt = 6 by decide +kernel]
    unfold zSz
    omega
  have key : ∀ n : Nat, n < 13 → (zMt g s.toNatClampNeg e.toNatClampNeg (zStT n) ↔ zSz s e ≤ 6 ∧ zCV (zLV g s.toNatClampNeg (zSz s e)) = (zOwT n).toInt) := by
    intro n hn
    obtain ⟨t1, t2, t3, t4, t5⟩ := zTabOk n hn
    have := zMt_v (g := g) (s := s.toNatClampNeg) (e := e.toNatClampNeg) (k := zStT n) t1 (fun i hi => t4 i (by omega) hi) t2 t3 (by omega) (fun i hi => zKd1 (hl i (by omega)))
    rw [hz] at this
    rw [t5]
    exact this
  refine zw_mono (zOwnL he hs hT) (fun r hr => ?_)
  rcases hr with ⟨rfl, hr⟩ | ⟨r0, r1, k, hp, hm⟩
  · refine ⟨by decide, by decide, fun _ => rfl, fun v h1 h2 => Or.inl ⟨rfl, fun w hw q => ?_⟩⟩
    obtain ⟨p1, p2, p3, p4⟩ := zPair_of w hw
    refine hr _ _ p1 p2 p3 ?_
    rw [p4]
    exact (key w hw).mpr ⟨h6.mp h1, by rw [← h2, q]⟩
  · obtain ⟨p1, p2⟩ := zPair_n hp r0 r1
    rw [p2] at hm
    have hm2 := (key _ p1).mp hm
    refine ⟨by grind, r1, fun q => ?_, fun v h1 h2 => Or.inr ⟨r0, by grind, ?_⟩⟩
    · have := h6.mpr hm2.1
      grind
    · apply Int32.toInt_inj.mp
      rw [h2]
      exact hm2.2.symm
theorem zOwS_un {v o p : Int32} (h1 : zOwS v o) (h2 : zOwS v p) : o = p := by
  have hinj : ∀ w : Nat, w < 13 → ∀ x : Nat, x < 13 → zOwT w = zOwT x → w = x := by decide +kernel
  have hb : ∀ x : Int32, 0 ≤ x → x < 13 → x.toNatClampNeg < 13 := by
    intro x h0 h1
    have := zcl x 12 12 (by decide) (by grind)
    omega
  rcases h1 with ⟨a1, a2⟩ | ⟨a1, a2, a3⟩
  · rcases h2 with ⟨b1, b2⟩ | ⟨b1, b2, b3⟩
    · rw [a1, b1]
    · exact absurd b3 (a2 _ (hb _ b1 b2))
  · rcases h2 with ⟨b1, b2⟩ | ⟨b1, b2, b3⟩
    · exact absurd a3 (b2 _ (hb _ a1 a2))
    · exact zinj o p a1 b1 (hinj _ (hb _ a1 a2) _ (hb _ b1 b2) (a3.trans b3.symm))
/-! the reference's reading, by the class's next word -/
theorem zFl_0 (p q wa : Int32) : fn_X12_faults p q 0 wa = some (p, q) := by
  unfold fn_X12_faults
  rw [if_pos rfl]
theorem zFl_n {w : Int32} (hw : ¬ w = 0) (p q wa : Int32) : fn_X12_faults p q w wa = some (w, wa) := by
  unfold fn_X12_faults
  rw [if_neg hw]
theorem zGw_n {w : Int32} (hw : ¬ w = 0) : fn_X12_goesWell w = some 0 := by
  unfold fn_X12_goesWell
  rw [if_neg hw]
theorem zGw_0 : fn_X12_goesWell 0 = some 1 := rfl
theorem zl_1 {σ ρ : Type} (B : σ → (σ → Option ρ) → Option ρ) (s : σ) : zl B 100000 s = B s (zl B 99999) := rfl
theorem zTok_b {n a e k s v o : Int32} {f g : Nat → Int32} (ha : 0 ≤ a ∧ a ≤ n) (T : zTok n f g a e k s v o) : 0 ≤ s ∧ s ≤ n ∧ s ≤ e ∧ e ≤ n := by
  obtain ⟨t1, t2, t3, _⟩ := T
  have := zSk_le t1 ha.2
  have := t1.1
  grind
noncomputable def zIsW (n : Int32) (g : Nat → Int32) (a s : Int32) : Prop := zK n g s = 1 ∧ ¬ zJn n g a s
theorem zTok_w {n a e k s v o : Int32} {f g : Nat → Int32} (T : zTok n f g a e k s v o) (h : zIsW n g a s) : zRun n g 1 s e ∧ (k = 1 ∧ e - s ≤ 6 ∧ v.toInt = zCV (zLV g s.toNatClampNeg (zSz s e)) ∧ zOwS v o ∨ k = 4 ∧ 6 < e - s) := by
  obtain ⟨h1, h2⟩ := h
  obtain ⟨_, _, _, T⟩ := T
  rcases T with T | T | T | T | T | T
  · grind
  · grind
  · obtain ⟨t1, t2, t3, t4, t5⟩ := T
    refine ⟨t2, Or.inr ⟨t4, ?_⟩⟩
    rcases t3 with q | q
    · exact absurd q h2
    · exact q
  · obtain ⟨t1, t2, t3, t4, t5, t6, t7⟩ := T
    exact ⟨t2, Or.inl ⟨t5, t4, t6, t7⟩⟩
  · grind
  · grind
theorem zTok_k1 {n a e k s v o : Int32} {f g : Nat → Int32} (T : zTok n f g a e k s v o) (h : k = 1) : zIsW n g a s := by
  obtain ⟨_, _, _, T⟩ := T
  subst h
  rcases T with T | T | T | T | T | T
  · exact absurd T.2.2.1 (by decide)
  · exact absurd T.2.2.1 (by decide)
  · exact absurd T.2.2.2.1 (by decide)
  · exact ⟨T.1, T.2.2.1⟩
  · exact absurd T.2.2.2.1 (by decide)
  · exact absurd T.2.2.2.2.1 (by decide)
/-- what stands ahead of the next word, once this one is passed -/
theorem zTok_nx {n a e k s v o : Int32} {f g : Nat → Int32} (hn : n ≤ 1200) (ha : 0 ≤ a ∧ a ≤ n) (T : zTok n f g a e k s v o) (hk : k = 1 ∨ k = 2 ∨ k = 3) : (0 ≤ e ∧ e ≤ n) ∧ ((k = 1 ∨ k = 2) ↔ (zK n g (e - 1) = 1 ∨ zK n g (e - 1) = 2)) := by
  have hb := zTok_b ha T
  refine ⟨by grind, ?_⟩
  obtain ⟨_, _, _, T⟩ := T
  have hrun : ∀ q : Int32, zK n g s = q → zRun n g q s e → s < e ∧ zK n g (e - 1) = q := by
    intro q q1 ⟨r1, r2, r3⟩
    have : s < e := by
      by_cases c : s = e
      · rw [← c] at r3; exact absurd q1 r3
      · grind
    exact ⟨this, r2 (e - 1) (by grind) (by grind)⟩
  rcases T with T | T | T | T | T | T
  · grind
  · obtain ⟨t1, t2, t3, t4⟩ := T
    rw [show e - 1 = s by grind, t1, t3]
  · grind
  · obtain ⟨t1, t2, t3, t4, t5, _⟩ := T
    have := hrun 1 t1 t2
    exact ⟨fun _ => Or.inl this.2, fun _ => Or.inl t5⟩
  · grind
  · obtain ⟨t1, t2, t3, t4, t5, _⟩ := T
    have := hrun 2 t1 t2
    exact ⟨fun _ => Or.inr this.2, fun _ => Or.inr t5⟩
theorem zWord_n {w : Int32} (hw : ¬ w = 0) (n a bg wa : Int32) (g : Nat → Int32) : fn_X12_word n a bg w wa g = some (a, bg, w, wa) := by
  unfold fn_X12_word
  rw [zGw_n hw, zb_some, if_pos rfl]
theorem zWordM {n a e k s v o bg wa : Int32} {f g : Nat → Int32} (hn : n ≤ 1200) (ha : 0 ≤ a ∧ a ≤ n) (T : zTok n f g a e k s v o) : zw (fn_X12_word n a bg 0 wa g) (fun r => zIsW n g a s ∧ r = (e, s, 0, wa) ∨ ¬ zIsW n g a s ∧ r = (s, s, 1, s)) := by
  have hb := zTok_b ha T
  have hsk := T.1
  unfold fn_X12_word
  simp only [zGw_0, zb_some, zSm_fn hn, zDi_fn hn, zFl_0]
  refine zw_if (fun c => absurd c (by decide)) (fun _ => ?_)
  refine zw_zb0 (zHere hn ha) (fun r hr => ?_)
  obtain ⟨b, s'⟩ := r
  dsimp only at hr ⊢
  obtain rfl : s = s' := zSk_un hsk hr.1
  have hj : zJn n g a s ↔ (zK n g (s - 1) = 1 ∨ zK n g (s - 1) = 2) := by
    unfold zJn
    constructor
    · intro ⟨q1, q2⟩; rw [q1]; exact q2
    · intro q
      by_cases c : s = a
      · exact ⟨c, by rw [← c]; exact q⟩
      · have := hsk.2.1 (s - 1) (by have := hsk.1; grind) (by grind)
        rw [this] at q
        exact absurd q (by decide)
  refine zw_if (fun c => ?_) (fun c => ?_)
  · refine zw_some (Or.inr ⟨fun q => ?_, rfl⟩)
    rw [if_pos q.1] at c
    exact absurd c (by decide)
  have c1 : zK n g s = 1 := by
    by_cases q : zK n g s = 1
    · exact q
    · rw [if_neg q] at c; exact absurd rfl c
  refine zw_if (fun d => ?_) (fun d => ?_)
  · refine zw_if (fun d2 => ?_) (fun d2 => ?_)
    · have hw : zIsW n g a s := by
        refine ⟨c1, fun q => ?_⟩
        rcases hj.mp q with q | q
        · rw [if_pos q] at d; exact absurd d (by decide)
        · rw [if_pos q] at d2; exact absurd d2 (by decide)
      have hrun := (zTok_w T hw).1
      refine zw_zl32 (fun p => s ≤ p ∧ p ≤ n ∧ (∀ i : Int32, s ≤ i → i < p → zK n g i = 1)) (fun p => n - p) ⟨by grind, by grind, fun i h1 h2 => by grind⟩ (by (try dsimp only); grind) (fun p back H h => ?_)
      obtain ⟨H1, H2, H3⟩ := H
      refine zw_if (fun q => ?_) (fun q => ?_)
      · refine zw_some (Or.inl ⟨hw, ?_⟩)
        have : zRun n g 1 s p := ⟨H1, H3, fun q2 => by rw [if_pos q2] at q; exact absurd q (by decide)⟩
        rw [zRun_un this hrun]
      · have q1 : zK n g p = 1 := by
          by_cases q2 : zK n g p = 1
          · exact q2
          · rw [if_neg q2] at q; exact absurd rfl q
        have hin := zK_in (n := n) (g := g) (i := p) (by rw [q1]; decide)
        refine h _ ⟨by grind, by grind, fun i i1 i2 => ?_⟩ (by (try dsimp only); grind) (by (try dsimp only); grind)
        by_cases q2 : i = p
        · rw [q2]; exact q1
        · exact H3 i i1 (by grind)
    · refine zw_some (Or.inr ⟨fun q => q.2 (hj.mpr (Or.inr ?_)), rfl⟩)
      by_cases q2 : zK n g (s - 1) = 2
      · exact q2
      · rw [if_neg q2] at d2; exact absurd rfl d2
  · refine zw_some (Or.inr ⟨fun q => q.2 (hj.mpr (Or.inl ?_)), rfl⟩)
    by_cases q2 : zK n g (s - 1) = 1
    · exact q2
    · rw [if_neg q2] at d; exact absurd rfl d
theorem zMust_n {w : Int32} (hw : ¬ w = 0) (p n a bg wa : Int32) (g tab : Nat → Int32) : fn_X12_must p n a bg w wa g tab = some (a, bg, w, wa) := by
  unfold fn_X12_must
  simp only [zWord_n hw, zb_some, zGw_n hw, if_true]
theorem zMustM {n a e k s v o bg wa w : Int32} {f g tab : Nat → Int32} (hn : n ≤ 1200) (ha : 0 ≤ a ∧ a ≤ n) (T : zTok n f g a e k s v o) (hT : (∀ k : Nat, k < 71 → tab k = zTab k)) (hw : 0 ≤ w) : zw (fn_X12_must w n a bg 0 wa g tab) (fun r => (k = 1 ∧ o = w) ∧ r = (e, s, 0, wa) ∨ ¬ (k = 1 ∧ o = w) ∧ r.2.2.1 = 1 ∧ r.2.2.2 = s) := by
  have hb := zTok_b ha T
  unfold fn_X12_must
  refine zw_zb0 (zWordM hn ha T) (fun r hr => ?_)
  rcases hr with ⟨hw1, rfl⟩ | ⟨hw1, rfl⟩
  · dsimp only
    rw [zGw_0, zb_some, if_neg (by decide)]
    obtain ⟨hrun, hk⟩ := zTok_w T hw1
    refine zw_zb0 (zOwnM (by grind) (by grind) hb.2.2.1 hT (fun i hi => zRun_l hb.1 hb.2.2.1 hb.2.2.2 hn hrun.2.1 i hi)) (fun p hp => ?_)
    obtain ⟨p1, p2, p3, p4⟩ := hp
    refine zw_if (fun c => ?_) (fun c => ?_)
    · refine zw_some (Or.inl ⟨?_, rfl⟩)
      rcases hk with ⟨k1, k2, k3, k4⟩ | ⟨k1, k2⟩
      · exact ⟨k1, by rw [← c]; exact zOwS_un k4 (p4 v k2 k3)⟩
      · have := p3 k2
        grind
    · rw [zFl_0, zb_some]
      refine zw_some (Or.inr ⟨fun q => c ?_, rfl, rfl⟩)
      rcases hk with ⟨k1, k2, k3, k4⟩ | ⟨k1, k2⟩
      · rw [← q.2]; exact zOwS_un (p4 v k2 k3) k4
      · exact absurd (q.1.symm.trans k1) (by decide)
  · dsimp only
    rw [zGw_n (by decide), zb_some, if_pos rfl]
    exact zw_some (Or.inr ⟨fun q => hw1 (zTok_k1 T q.1), rfl, rfl⟩)
/-! names of class and reference: the same letters, the other way round -/
noncomputable def zNm (c m : Int32) : Prop := ∃ l : Nat → Int, (∀ i : Nat, 0 ≤ l i ∧ l i < 32) ∧ c.toInt = zCV l ∧ m.toInt = zMV l
theorem zMV_inj {l m : Nat → Int} (h : zMV l = zMV m) (h1 : ∀ i : Nat, 0 ≤ l i ∧ l i < 32) (h2 : ∀ i : Nat, 0 ≤ m i ∧ m i < 32) : zCV l = zCV m := by
  unfold zMV at h
  unfold zCV
  have a0 := h1 0
  have a1 := h1 1
  have a2 := h1 2
  have a3 := h1 3
  have a4 := h1 4
  have a5 := h1 5
  have b0 := h2 0
  have b1 := h2 1
  have b2 := h2 2
  have b3 := h2 3
  have b4 := h2 4
  have b5 := h2 5
  omega
theorem zNm_eq {c m c' m' : Int32} (h : zNm c m) (h' : zNm c' m') : c = c' ↔ m = m' := by
  obtain ⟨l, l1, l2, l3⟩ := h
  obtain ⟨q, q1, q2, q3⟩ := h'
  constructor
  · intro e
    apply Int32.toInt_inj.mp
    rw [l3, q3]
    have e2 : zCV l = zCV q := by rw [← l2, ← q2, e]
    have hi := zCV_inj e2 l1 q1
    unfold zMV
    rw [hi 0 (by decide), hi 1 (by decide), hi 2 (by decide), hi 3 (by decide), hi 4 (by decide), hi 5 (by decide)]
  · intro e
    apply Int32.toInt_inj.mp
    rw [l2, q2]
    exact zMV_inj (by rw [← l3, ← q3, e]) l1 q1
theorem zName_n {w : Int32} (hw : ¬ w = 0) (n a bg wa : Int32) (g tab : Nat → Int32) : fn_X12_name n a bg w wa g tab = some (0, a, bg, w, wa) := by
  unfold fn_X12_name
  simp only [zWord_n hw, zb_some, zGw_n hw, if_true, zj, zl_1, ite_self]
/-- the reference's name: its letters from the last one on -/
noncomputable def zNL (g : Nat → Int32) (s : Nat) : Nat → Nat → Int
  | _, 0 => 0
  | i, k + 1 => ((g (s + i)).toInt - 96) + 32 * zNL g s (i + 1) k
theorem zNL_M (g : Nat → Int32) (s K : Nat) (hK : K ≤ 6) : zNL g s 0 K = zMV (zLV g s K) := by
  match K, hK with
  | 0, _ => simp [zNL, zMV, zLV]
  | 1, _ => simp [zNL, zMV, zLV]
  | 2, _ => simp [zNL, zMV, zLV]; omega
  | 3, _ => simp [zNL, zMV, zLV]; omega
  | 4, _ => simp [zNL, zMV, zLV]; omega
  | 5, _ => simp [zNL, zMV, zLV]; omega
  | 6, _ => simp [zNL, zMV, zLV]; omega
theorem zNL_b (g : Nat → Int32) (s : Nat) (hl : ∀ i : Nat, i < 6 → 97 ≤ (g (s + i)).toInt ∧ (g (s + i)).toInt ≤ 122) : True := trivial
theorem zNameM {n a e k s v o bg wa : Int32} {f g tab : Nat → Int32} (hn : n ≤ 1200) (ha : 0 ≤ a ∧ a ≤ n) (T : zTok n f g a e k s v o) (hT : (∀ k : Nat, k < 71 → tab k = zTab k)) : zw (fn_X12_name n a bg 0 wa g tab) (fun r => (k = 1 ∧ o = (-1)) ∧ zNm v r.1 ∧ r.2 = (e, s, 0, wa) ∨ ¬ (k = 1 ∧ o = (-1)) ∧ r.1 = 0 ∧ r.2.2.2.1 = 1 ∧ r.2.2.2.2 = s) := by
  have hb := zTok_b ha T
  unfold fn_X12_name
  refine zw_zb0 (zWordM hn ha T) (fun r hr => ?_)
  rcases hr with ⟨hw1, rfl⟩ | ⟨hw1, rfl⟩
  · dsimp only
    rw [zGw_0, zb_some]
    obtain ⟨hrun, hk⟩ := zTok_w T hw1
    refine zw_zj (fun t => t = (0, wa) ∧ k = 1 ∧ o = (-1) ∨ t = (1, s) ∧ ¬ (k = 1 ∧ o = (-1))) (fun t ht => ?_) (fun j_9 hj9 => ?_)
    · rcases ht with ⟨rfl, k1, o1⟩ | ⟨rfl, hno⟩
      · dsimp only
        rcases hk with ⟨_, k2, k3, k4⟩ | ⟨q, _⟩
        · obtain ⟨a1, a2, a3, a4, a5, a6⟩ := zAdN hb.1 hb.2.2.1 (by grind : e ≤ 1200)
          have hK6 : zSz s e ≤ 6 := zcl (e - s) 6 6 (by decide) k2
          have hl : ∀ i : Nat, i < zSz s e → 97 ≤ (g (s.toNatClampNeg + i)).toInt ∧ (g (s.toNatClampNeg + i)).toInt ≤ 122 := fun i hi => zKd1 (zRun_l hb.1 hb.2.2.1 hb.2.2.2 hn hrun.2.1 i hi)
          refine zw_zl32 (fun t => s ≤ t.2 + 1 ∧ t.2 + 1 ≤ e ∧ (-1) ≤ t.2 ∧ t.2 ≤ 1200 ∧ (∀ i : Nat, (i : Int) = t.2.toInt + 1 - s.toInt → t.1.toInt = zNL g s.toNatClampNeg i (zSz s e - i) ∧ 0 ≤ t.1.toInt ∧ t.1.toInt < (32 : Int) ^ (zSz s e - i))) (fun t => t.2 + 1 - s) ?_ ?_ (fun t back H h => ?_)
          · have e1 := zo_sub (x := e) (y := 1) (z := e - 1) rfl rfl zi_1' (by omega)
            refine ⟨by (try dsimp only); grind, by (try dsimp only); grind, by (try dsimp only); grind, by (try dsimp only); grind, fun i hi => ?_⟩
            dsimp only at hi ⊢
            have : i = zSz s e := by
              unfold zSz
              omega
            rw [this, Nat.sub_self]
            exact ⟨zi_0, by decide, by decide⟩
          · dsimp only
            grind
          · obtain ⟨x, p⟩ := t
            dsimp only at H h ⊢
            obtain ⟨H1, H2, H3, H4, H5⟩ := H
            have p1 := Int32.le_iff_toInt_le.mp H3
            have p2 := Int32.le_iff_toInt_le.mp H4
            rw [show (-1 : Int32).toInt = -1 by decide +kernel] at p1
            rw [z1200] at p2
            have e1 := zo_add (x := p) (y := 1) (z := p + 1) rfl rfl zi_1' (by omega)
            have p3 := Int32.le_iff_toInt_le.mp H1
            have p4 := Int32.le_iff_toInt_le.mp H2
            refine zw_if (fun c => ?_) (fun c => ?_)
            · rw [zGw_0, zb_some, if_neg (by decide)]
              refine zw_some (Or.inl ⟨⟨k1, o1⟩, ?_, rfl⟩)
              have c1 := Int32.lt_iff_toInt_lt.mp c
              have := (H5 0 (by omega)).1
              rw [Nat.sub_zero, zNL_M g _ _ hK6] at this
              exact ⟨_, zLV_b hl, k3, this⟩
            · rw [zGw_0, zb_some, if_neg (by decide)]
              have c1 : ¬ p.toInt < s.toInt := fun q => c (Int32.lt_iff_toInt_lt.mpr q)
              refine zw_zg32 1200 (by decide) (by grind) ?_
              obtain ⟨i, hi⟩ : ∃ i : Nat, (i : Int) = p.toInt - s.toInt := ⟨(p.toInt - s.toInt).toNat, by omega⟩
              have hik : i < zSz s e := by unfold zSz; omega
              obtain ⟨q1, q2, q3⟩ := H5 (i + 1) (by omega)
              have hpi : s.toNatClampNeg + i = p.toNatClampNeg := by
                show s.toInt.toNat + i = p.toInt.toNat
                omega
              have hg := hl i hik
              rw [hpi] at hg
              have hpow : (32 : Int) ^ (zSz s e - (i + 1)) ≤ 33554432 := by
                have := Nat.pow_le_pow_right (show 1 ≤ 32 by decide) (show zSz s e - (i + 1) ≤ 5 by omega)
                have h2 : ((32 ^ (zSz s e - (i + 1)) : Nat) : Int) ≤ ((32 ^ 5 : Nat) : Int) := by omega
                rw [Int.natCast_pow] at h2
                exact h2
              have r1 := zo_mul (x := 32) (y := x) (z := 32 * x) rfl (by decide +kernel : (32 : Int32).toInt = 32) rfl (by omega)
              have r2 := zo_add (x := 32 * x) (y := g p.toNatClampNeg) (z := 32 * x + g p.toNatClampNeg) rfl r1 rfl (by omega)
              have r3 := zo_sub (x := 32 * x + g p.toNatClampNeg) (y := 96) (z := 32 * x + g p.toNatClampNeg - 96) rfl r2 (by decide +kernel : (96 : Int32).toInt = 96) (by omega)
              have r4 := zo_add (x := p) (y := -1) (z := p + (-1)) rfl rfl (by decide +kernel : (-1 : Int32).toInt = -1) (by omega)
              refine h _ ⟨by (try dsimp only); grind, by (try dsimp only); grind, by (try dsimp only); grind, by (try dsimp only); grind, fun j hj => ?_⟩ (by (try dsimp only); grind) (by (try dsimp only); grind)
              dsimp only at hj ⊢
              rw [r4] at hj
              have hji : j = i := by
                clear r1 r2 r3 r4 hpow hg q1 q2 q3 hpi hik
                omega
              subst hji
              have hsz : zSz s e - j = zSz s e - (j + 1) + 1 := by omega
              rw [r3, hsz, Int.pow_succ]
              show _ = ((g (s.toNatClampNeg + j)).toInt - 96) + 32 * zNL g s.toNatClampNeg (j + 1) (zSz s e - (j + 1)) ∧ _ ∧ _
              rw [hpi, ← q1]
              omega
        · exact absurd (k1.symm.trans q) (by decide)
      · dsimp only
        rw [zl_1]
        simp only [zGw_n (show ¬ (1 : Int32) = 0 by decide), zb_some, if_true, ite_self]
        exact zw_some (Or.inr ⟨hno, rfl, rfl, rfl⟩)
    · rw [if_neg (by decide)]
      refine zw_zb0 (zOwnM (by grind) (by grind) hb.2.2.1 hT (fun i hi => zRun_l hb.1 hb.2.2.1 hb.2.2.2 hn hrun.2.1 i hi)) (fun p hp => ?_)
      obtain ⟨p1, p2, p3, p4⟩ := hp
      refine zw_zj (fun _ => ¬ (k = 1 ∧ o = (-1))) (fun _ hq => ?_) (fun j_33 hj33 => ?_)
      · rw [zFl_0, zb_some]
        exact hj9 _ (Or.inr ⟨rfl, hq⟩)
      · refine zw_if (fun c => ?_) (fun c => hj33 () (fun q => c ?_))
        · refine zw_if (fun d => ?_) (fun d => hj33 () (fun q => ?_))
          · rcases hk with ⟨k1, k2, k3, k4⟩ | ⟨k1, k2⟩
            · exact hj9 _ (Or.inl ⟨rfl, k1, by rw [← c]; exact zOwS_un k4 (p4 v k2 k3)⟩)
            · grind
          · rcases hk with ⟨k1, k2, k3, k4⟩ | ⟨k1, k2⟩
            · exact d k2
            · exact absurd (q.1.symm.trans k1) (by decide)
        · rcases hk with ⟨k1, k2, k3, k4⟩ | ⟨k1, k2⟩
          · rw [← q.2]; exact zOwS_un (p4 v k2 k3) k4
          · exact absurd (q.1.symm.trans k1) (by decide)
  · dsimp only
    simp only [zGw_n (show ¬ (1 : Int32) = 0 by decide), zb_some, if_true, zj, zl_1, ite_self]
    exact zw_some (Or.inr ⟨fun q => hw1 (zTok_k1 T q.1), rfl, rfl, rfl⟩)
theorem zMark_n {w : Int32} (hw : ¬ w = 0) (c n a wa : Int32) (g : Nat → Int32) : fn_X12_mark c n a w wa g = some (a, w, wa) := by
  unfold fn_X12_mark
  rw [zGw_n hw, zb_some, if_pos rfl]
/-- a sign stands there just when the class has read it -/
theorem zTok_c {n a e k s v o : Int32} {f g : Nat → Int32} (ht : zTp f g) (ha : 0 ≤ a ∧ a ≤ n) (T : zTok n f g a e k s v o) (c : Int32) (hc : zKd c = 3 ∧ 0 ≤ c ∧ c ≤ 127) : (k = 3 ∧ v = c) ↔ zB n g s = c := by
  have hb := zTok_b ha T
  obtain ⟨_, _, _, T⟩ := T
  have hts := ht s.toNatClampNeg
  constructor
  · intro ⟨k3, vc⟩
    rcases T with T | T | T | T | T | T
    · exact absurd (k3.symm.trans T.2.2.1) (by decide)
    · obtain ⟨t1, t2, t3, t4, t5⟩ := T
      have hin := zK_in (n := n) (g := g) (i := s) (by rw [t1]; decide)
      unfold zB
      rw [if_neg (by grind)]
      grind
    · exact absurd (k3.symm.trans T.2.2.2.1) (by decide)
    · exact absurd (k3.symm.trans T.2.2.2.2.1) (by decide)
    · exact absurd (k3.symm.trans T.2.2.2.1) (by decide)
    · exact absurd (k3.symm.trans T.2.2.2.2.1) (by decide)
  · intro q
    have hin : 0 ≤ s ∧ s < n := by
      unfold zB at q
      by_cases d : s < 0 ∨ n ≤ s
      · rw [if_pos d] at q; grind
      · grind
    have hk : zK n g s = 3 := by
      rw [zK_at hin.1 hin.2]
      unfold zB at q
      rw [if_neg (by grind)] at q
      rw [q]; exact hc.1
    unfold zB at q
    rw [if_neg (by grind)] at q
    rcases T with T | T | T | T | T | T
    · exact absurd (hk.symm.trans T.1) (by decide)
    · obtain ⟨t1, t2, t3, t4, t5⟩ := T
      exact ⟨t3, by rw [t4]; grind⟩
    · exact absurd (hk.symm.trans T.1) (by decide)
    · exact absurd (hk.symm.trans T.1) (by decide)
    · exact absurd (hk.symm.trans T.1) (by decide)
    · exact absurd (hk.symm.trans T.1) (by decide)
theorem zTok_3 {n a e k s v o : Int32} {f g : Nat → Int32} (T : zTok n f g a e k s v o) (h : k = 3) : e = s + 1 := by
  obtain ⟨_, _, _, T⟩ := T
  rcases T with T | T | T | T | T | T
  · exact absurd (h.symm.trans T.2.2.1) (by decide)
  · exact T.2.1
  · exact absurd (h.symm.trans T.2.2.2.1) (by decide)
  · exact absurd (h.symm.trans T.2.2.2.2.1) (by decide)
  · exact absurd (h.symm.trans T.2.2.2.1) (by decide)
  · exact absurd (h.symm.trans T.2.2.2.2.1) (by decide)
theorem zMarkM {n a e k s v o wa c : Int32} {f g : Nat → Int32} (hn : n ≤ 1200) (ht : zTp f g) (ha : 0 ≤ a ∧ a ≤ n) (T : zTok n f g a e k s v o) (hc : zKd c = 3 ∧ 0 ≤ c ∧ c ≤ 127) : zw (fn_X12_mark c n a 0 wa g) (fun r => (k = 3 ∧ v = c) ∧ r = (e, 0, wa) ∨ ¬ (k = 3 ∧ v = c) ∧ r.2.1 = 1 ∧ r.2.2 = s) := by
  have hcc := zTok_c ht ha T c hc
  unfold fn_X12_mark
  rw [zGw_0, zb_some, if_neg (by decide)]
  refine zw_zb0 (zHere hn ha) (fun r hr => ?_)
  obtain ⟨b, s'⟩ := r
  dsimp only at hr ⊢
  obtain ⟨h1, h2⟩ := hr
  obtain rfl : s = s' := zSk_un T.1 h1
  refine zw_if (fun d => ?_) (fun d => ?_)
  · have q := hcc.mpr (by rw [← h2]; exact d)
    exact zw_some (Or.inl ⟨q, by rw [zTok_3 T q.1]⟩)
  · rw [zFl_0, zb_some]
    exact zw_some (Or.inr ⟨fun q => d (by rw [h2]; exact hcc.mp q), rfl, rfl⟩)
theorem zDig_n {w : Int32} (hw : ¬ w = 0) (n a bg wa : Int32) (g : Nat → Int32) : fn_X12_digits n a bg w wa g = some (0, a, bg, w, wa) := by
  unfold fn_X12_digits
  rw [zGw_n hw, zb_some, if_pos rfl]
theorem z64_of {x : Int64} {v : Int32} (h : x.toInt = v.toInt) : x = v.toInt64 := by
  apply Int64.toInt_inj.mp
  rw [z64_i, h]
set_option maxHeartbeats 1000000 in
theorem zDigM {n a e k s v o bg wa : Int32} {f g : Nat → Int32} (hn : n ≤ 1200) (ha : 0 ≤ a ∧ a ≤ n) (T : zTok n f g a e k s v o) : zw (fn_X12_digits n a bg 0 wa g) (fun r => k = 2 ∧ 0 ≤ v ∧ v ≤ 99999999 ∧ r = (v.toInt64, e, s, 0, wa) ∨ ¬ k = 2 ∧ r.1 = 0 ∧ r.2.2.2.1 = 1 ∧ r.2.2.2.2 = s) := by
  have hb := zTok_b ha T
  have hsk := T.1
  unfold fn_X12_digits
  simp only [zGw_0, zb_some, zSm_fn hn, zDi_fn hn, zFl_0, zB_fn hn]
  refine zw_if (fun c => absurd c (by decide)) (fun _ => ?_)
  refine zw_zb0 (zHere hn ha) (fun r hr => ?_)
  obtain ⟨b, s'⟩ := r
  dsimp only at hr ⊢
  obtain rfl : s = s' := zSk_un hsk hr.1
  have hj : zJn n g a s ↔ (zK n g (s - 1) = 1 ∨ zK n g (s - 1) = 2) := by
    unfold zJn
    constructor
    · intro ⟨q1, q2⟩; rw [q1]; exact q2
    · intro q
      by_cases c : s = a
      · exact ⟨c, by rw [← c]; exact q⟩
      · have := hsk.2.1 (s - 1) (by have := hsk.1; grind) (by grind)
        rw [this] at q
        exact absurd q (by decide)
  obtain ⟨_, _, _, TT⟩ := T
  have hk2 : k = 2 → zK n g s = 2 ∧ ¬ zJn n g a s := by
    intro q
    rcases TT with T | T | T | T | T | T
    · exact absurd (q.symm.trans T.2.2.1) (by decide)
    · exact absurd (q.symm.trans T.2.2.1) (by decide)
    · exact absurd (q.symm.trans T.2.2.2.1) (by decide)
    · exact absurd (q.symm.trans T.2.2.2.2.1) (by decide)
    · exact absurd (q.symm.trans T.2.2.2.1) (by decide)
    · exact ⟨T.1, T.2.2.1⟩
  refine zw_if (fun c => ?_) (fun c => ?_)
  · refine zw_some (Or.inr ⟨fun q => ?_, rfl, rfl, rfl⟩)
    rw [if_pos (hk2 q).1] at c
    exact absurd c (by decide)
  have c1 : zK n g s = 2 := by
    by_cases q : zK n g s = 2
    · exact q
    · rw [if_neg q] at c; exact absurd rfl c
  refine zw_if (fun d => ?_) (fun d => ?_)
  · refine zw_if (fun d2 => ?_) (fun d2 => ?_)
    · have hnj : ¬ zJn n g a s := by
        intro q
        rcases hj.mp q with q | q
        · rw [if_pos q] at d; exact absurd d (by decide)
        · rw [if_pos q] at d2; exact absurd d2 (by decide)
      have hrun : zRun n g 2 s e ∧ (k = 2 ∧ e - s ≤ 8 ∧ v.toInt = zDV g s.toNatClampNeg (zSz s e) ∨ ¬ k = 2 ∧ 8 < e - s) := by
        rcases TT with T | T | T | T | T | T
        · exact absurd (c1.symm.trans T.1) (by decide)
        · exact absurd (c1.symm.trans T.1) (by decide)
        · exact absurd (c1.symm.trans T.1) (by decide)
        · exact absurd (c1.symm.trans T.1) (by decide)
        · refine ⟨T.2.1, Or.inr ⟨by rw [T.2.2.2.1]; decide, ?_⟩⟩
          rcases T.2.2.1 with q | q
          · exact absurd q hnj
          · exact q
        · exact ⟨T.2.1, Or.inl ⟨T.2.2.2.2.1, T.2.2.2.1, T.2.2.2.2.2.1⟩⟩
      refine zw_zl32 (fun t => s ≤ t.2 ∧ t.2 ≤ n ∧ (∀ i : Int32, s ≤ i → i < t.2 → zK n g i = 2) ∧ (t.2 - s ≤ 8 → t.1.toInt = zDV g s.toNatClampNeg (zSz s t.2))) (fun t => n - t.2) ?_ (by (try dsimp only); grind) (fun t back H h => ?_)
      · refine ⟨by (try dsimp only); grind, by (try dsimp only); grind, fun i h1 h2 => by dsimp only at h2; grind, fun _ => ?_⟩
        dsimp only
        unfold zSz
        rw [show s - s = 0 by grind, zn01.1]
        rfl
      obtain ⟨x, p⟩ := t
      dsimp only at H h ⊢
      obtain ⟨H1, H2, H3, H4⟩ := H
      obtain ⟨a1, a2, a3, a4, a5, a6⟩ := zAdN hb.1 H1 (by grind : p ≤ 1200)
      refine zw_if (fun q => ?_) (fun q => ?_)
      · have hp : zRun n g 2 s p := ⟨H1, H3, fun q2 => by rw [if_pos q2] at q; exact absurd q (by decide)⟩
        obtain rfl := zRun_un hp hrun.1
        refine zw_if (fun d3 => ?_) (fun d3 => ?_)
        · refine zw_if (fun q3 => absurd q3 (by decide)) (fun _ => ?_)
          rcases hrun.2 with ⟨k2, k8, kv⟩ | ⟨k2, k8⟩
          · have hbd := zDV_b (g := g) (s := s.toNatClampNeg) (zSz s p) (fun i hi => zKd2 (zRun_l hb.1 H1 H2 hn H3 i hi))
            have h8 : zSz s p ≤ 8 := zcl (p - s) 8 8 (by decide) k8
            have hp8 := zp10 h8
            rw [show (10 : Int) ^ 8 = 100000000 by decide] at hp8
            refine zw_some (Or.inl ⟨k2, ?_, ?_, ?_⟩)
            · apply Int32.le_iff_toInt_le.mpr
              rw [zi_0]; omega
            · apply Int32.le_iff_toInt_le.mpr
              rw [show (99999999 : Int32).toInt = 99999999 by decide +kernel]; omega
            · rw [z64_of ((H4 d3).trans kv.symm)]
          · grind
        · rw [zGw_n (show ¬ (1 : Int32) = 0 by decide), zb_some]
          refine zw_if (fun _ => ?_) (fun q3 => absurd rfl q3)
          refine zw_some (Or.inr ⟨fun q2 => ?_, rfl, rfl, rfl⟩)
          rcases hrun.2 with ⟨k2, k8, kv⟩ | ⟨k2, k8⟩
          · exact d3 k8
          · exact k2 q2
      · have q1 : zK n g p = 2 := by
          by_cases q2 : zK n g p = 2
          · exact q2
          · rw [if_neg q2] at q; exact absurd rfl q
        have hin := zK_in (n := n) (g := g) (i := p) (by rw [q1]; decide)
        have hall : ∀ i : Int32, s ≤ i → i < p + 1 → zK n g i = 2 := by
          intro i i1 i2
          by_cases q2 : i = p
          · rw [q2]; exact q1
          · exact H3 i i1 (by grind)
        refine zw_if (fun d3 => ?_) (fun d3 => ?_)
        · exact h _ ⟨by (try dsimp only); grind, by (try dsimp only); grind, hall, fun q2 => absurd q2 (by (try dsimp only); grind)⟩ (by (try dsimp only); grind) (by (try dsimp only); grind)
        · refine h _ ⟨by (try dsimp only); grind, by (try dsimp only); grind, hall, fun _ => ?_⟩ (by (try dsimp only); grind) (by (try dsimp only); grind)
          dsimp only
          have hz : zSz s (p + 1) = zSz s p + 1 := by
            unfold zSz
            rw [show p + 1 - s = p - s + 1 by grind]
            exact zNx (by grind) (by grind)
          have h7 : zSz s p ≤ 7 := zcl (p - s) 7 7 (by decide) (by grind)
          have hbd := zDV_b (g := g) (s := s.toNatClampNeg) (zSz s p) (fun i hi => zKd2 (zRun_l hb.1 H1 H2 hn H3 i hi))
          have hp7 := zp10 h7
          rw [show (10 : Int) ^ 7 = 10000000 by decide] at hp7
          have hx := H4 (by grind)
          have hgp : zB n g p = g p.toNatClampNeg := by
            unfold zB
            rw [if_neg (by grind)]
          have hgb := zKd2 (c := g p.toNatClampNeg) (by rw [← zK_at (n := n) hin.1 hin.2]; exact q1)
          rw [hgp, hz]
          show _ = zDV g s.toNatClampNeg (zSz s p) * 10 + ((g (s.toNatClampNeg + zSz s p)).toInt - 48)
          rw [show s.toNatClampNeg + zSz s p = p.toNatClampNeg from a1]
          have e1 : ((10 : Int64) * x).toInt = 10 * x.toInt := by
            rw [Int64.toInt_mul, show (10 : Int64).toInt = 10 by decide +kernel, Int.bmod_def]
            split <;> omega
          have e2 : ((10 : Int64) * x + (g p.toNatClampNeg).toInt64).toInt = 10 * x.toInt + (g p.toNatClampNeg).toInt := by
            rw [Int64.toInt_add, e1, z64_i, Int.bmod_def]
            split <;> omega
          have e3 : ((10 : Int64) * x + (g p.toNatClampNeg).toInt64 - (48 : Int64)).toInt = 10 * x.toInt + (g p.toNatClampNeg).toInt - 48 := by
            rw [Int64.toInt_sub, e2, show (48 : Int64).toInt = 48 by decide +kernel, Int.bmod_def]
            split <;> omega
          rw [e3, hx]
          omega
    · refine zw_some (Or.inr ⟨fun q => (hk2 q).2 (hj.mpr (Or.inr ?_)), rfl, rfl, rfl⟩)
      by_cases q2 : zK n g (s - 1) = 2
      · exact q2
      · rw [if_neg q2] at d2; exact absurd rfl d2
  · refine zw_some (Or.inr ⟨fun q => (hk2 q).2 (hj.mpr (Or.inl ?_)), rfl, rfl, rfl⟩)
    by_cases q2 : zK n g (s - 1) = 1
    · exact q2
    · rw [if_neg q2] at d; exact absurd rfl d
theorem zIsIn (x lo hi : Int64) : fn_X12_isIn x lo hi = some (if lo ≤ x ∧ x ≤ hi then 1 else 0) := by
  unfold fn_X12_isIn
  by_cases c : lo ≤ x
  · rw [if_neg (fun q => absurd ((lg_cmp_lt _ _).mp q) (by grind))]
    by_cases d : x ≤ hi
    · rw [if_neg (fun q => absurd ((lg_cmp_gt _ _).mp q) (by grind)), if_pos ⟨c, d⟩]
    · rw [if_pos ((lg_cmp_gt _ _).mpr (by grind)), if_neg (fun q => d q.2)]
  · rw [if_pos ((lg_cmp_lt _ _).mpr (by grind)), if_neg (fun q => c q.1)]
theorem zNum_n {w : Int32} (hw : ¬ w = 0) (lo hi : Int64) (n a bg wa : Int32) (g : Nat → Int32) : fn_X12_number lo hi n a bg w wa g = some (0, a, bg, w, wa) := by
  unfold fn_X12_number
  simp only [zDig_n hw, zb_some, zGw_n hw, if_true]
theorem zNumM {n a e k s v o bg wa : Int32} {f g : Nat → Int32} (lo hi : Int64) (hn : n ≤ 1200) (ha : 0 ≤ a ∧ a ≤ n) (T : zTok n f g a e k s v o) : zw (fn_X12_number lo hi n a bg 0 wa g) (fun r => k = 2 ∧ (lo ≤ v.toInt64 ∧ v.toInt64 ≤ hi) ∧ 0 ≤ v ∧ v ≤ 99999999 ∧ r = (v.toInt64, e, s, 0, wa) ∨ k = 2 ∧ ¬ (lo ≤ v.toInt64 ∧ v.toInt64 ≤ hi) ∧ r.2.2.2.1 = 2 ∧ r.2.2.2.2 = s ∨ ¬ k = 2 ∧ r.2.2.2.1 = 1 ∧ r.2.2.2.2 = s) := by
  unfold fn_X12_number
  refine zw_zb0 (zDigM hn ha T) (fun r hr => ?_)
  rcases hr with ⟨k2, v0, v1, rfl⟩ | ⟨k2, r1, r2, r3⟩
  · dsimp only
    simp only [zGw_0, zb_some, zIsIn, zFl_0]
    refine zw_if (fun q => absurd q (by decide)) (fun _ => ?_)
    refine zw_if (fun q => ?_) (fun q => ?_)
    · have hno : ¬ (lo ≤ v.toInt64 ∧ v.toInt64 ≤ hi) := by
        intro q2
        rw [if_pos q2] at q
        exact absurd q (by decide)
      rw [zGw_n (by decide), zb_some, if_pos rfl]
      exact zw_some (Or.inr (Or.inl ⟨k2, hno, rfl, rfl⟩))
    · have hyes : lo ≤ v.toInt64 ∧ v.toInt64 ≤ hi := by
        by_cases q2 : lo ≤ v.toInt64 ∧ v.toInt64 ≤ hi
        · exact q2
        · rw [if_neg q2] at q; exact absurd rfl q
      refine zw_if (fun q => absurd q (by decide)) (fun _ => ?_)
      exact zw_some (Or.inl ⟨k2, hyes, v0, v1, rfl⟩)
  · obtain ⟨x1, x2, x3, x4, x5⟩ := r
    dsimp only at r1 r2 r3 ⊢
    subst r2
    simp only [zGw_n (show ¬ (1 : Int32) = 0 by decide), zb_some, if_true]
    exact zw_some (Or.inr (Or.inr ⟨k2, rfl, r3⟩))
/-! the class's reading -/
theorem zAdvN {n a e k s v o : Int32} {f g own : Nat → Int32} (hn : n ≤ 1200) (ha : 0 ≤ a ∧ a ≤ n) (ht : zTp f g) (ho : ∀ w : Nat, w < 13 → own w = zOwT w) (T : zTok n f g a e k s v o) (hk : k = 1 ∨ k = 2 ∨ k = 3) : zw (fn_X10_advance n e k f own) (fun r => zTok n f g e r.1 r.2.1 r.2.2.1 r.2.2.2.1 r.2.2.2.2) :=
  zAdv hn (zTok_nx hn ha T hk).1 ht ho (zTok_nx hn ha T hk).2
theorem zIsSign (c k v : Int32) : fn_X10_isSign c k v = some (if k = 3 ∧ v = c then 1 else 0) := by
  unfold fn_X10_isSign
  grind
theorem zIsOwn (w k o : Int32) : fn_X10_isOwn w k o = some (if k = 1 ∧ o = w then 1 else 0) := by
  unfold fn_X10_isOwn
  grind
theorem zIsName (k o : Int32) : fn_X10_isName k o = some (if k = 1 ∧ o = (-1) then 1 else 0) := by
  unfold fn_X10_isName
  grind
theorem zIf1 {c : Prop} [Decidable c] (h : ¬ (if c then (1 : Int32) else 0) = 0) : c := by
  by_cases q : c
  · exact q
  · rw [if_neg q] at h; exact absurd rfl h
theorem zIf0 {c : Prop} [Decidable c] (h : (if c then (1 : Int32) else 0) = 0) : ¬ c := by
  intro q
  rw [if_pos q] at h
  exact absurd h (by decide)
/-- a word that the class has read: what comes next -/
noncomputable def zNext (n : Int32) (f g : Nat → Int32) (a : Int32) (r : Int32 × Int32 × Int32 × Int32 × Int32) : Prop := (0 ≤ a ∧ a ≤ n) ∧ zTok n f g a r.1 r.2.1 r.2.2.1 r.2.2.2.1 r.2.2.2.2
theorem zRSign {n a e k s v o c fk fp : Int32} {f g own : Nat → Int32} (hn : n ≤ 1200) (ha : 0 ≤ a ∧ a ≤ n) (ht : zTp f g) (ho : ∀ w : Nat, w < 13 → own w = zOwT w) (T : zTok n f g a e k s v o) : zw (fn_X5_readSign c fk fp n e k s v o f own) (fun r => (k = 3 ∧ v = c) ∧ (∃ x, r = (1, fk, fp, x) ∧ zNext n f g e x) ∨ ¬ (k = 3 ∧ v = c) ∧ r = (0, 1, s, e, k, s, v, o)) := by
  unfold fn_X5_readSign
  simp only [zIsSign, zb_some]
  refine zw_if (fun c => ?_) (fun c => ?_)
  · exact zw_some (Or.inr ⟨zIf0 c, rfl⟩)
  have c := zIf1 c
  refine zw_zb0 (zAdvN hn ha ht ho T (Or.inr (Or.inr c.1))) (fun r hr => ?_)
  exact zw_some (Or.inl ⟨c, r, rfl, (zTok_nx hn ha T (Or.inr (Or.inr c.1))).1, hr⟩)
theorem zROwn {n a e k s v o w fk fp : Int32} {f g own : Nat → Int32} (hn : n ≤ 1200) (ha : 0 ≤ a ∧ a ≤ n) (ht : zTp f g) (ho : ∀ w : Nat, w < 13 → own w = zOwT w) (T : zTok n f g a e k s v o) : zw (fn_X5_readOwn w fk fp n e k s v o f own) (fun r => (k = 1 ∧ o = w) ∧ (∃ x, r = (1, fk, fp, x) ∧ zNext n f g e x) ∨ ¬ (k = 1 ∧ o = w) ∧ r = (0, 1, s, e, k, s, v, o)) := by
  unfold fn_X5_readOwn
  simp only [zIsOwn, zb_some]
  refine zw_if (fun c => ?_) (fun c => ?_)
  · exact zw_some (Or.inr ⟨zIf0 c, rfl⟩)
  have c := zIf1 c
  refine zw_zb0 (zAdvN hn ha ht ho T (Or.inl c.1)) (fun r hr => ?_)
  exact zw_some (Or.inl ⟨c, r, rfl, (zTok_nx hn ha T (Or.inl c.1)).1, hr⟩)
/-- a number without a sign -/
theorem zRVal0 {n a e k s v o lo hi got fk fp : Int32} {f g own : Nat → Int32} (hn : n ≤ 1200) (ha : 0 ≤ a ∧ a ≤ n) (ht : zTp f g) (ho : ∀ w : Nat, w < 13 → own w = zOwT w) (T : zTok n f g a e k s v o) : zw (fn_X5_readValue 0 lo hi got fk fp n e k s v o f own) (fun r => k = 2 ∧ (lo ≤ v ∧ v ≤ hi) ∧ (∃ x, r = (1, v, fk, fp, x) ∧ zNext n f g e x) ∨ k = 2 ∧ ¬ (lo ≤ v ∧ v ≤ hi) ∧ r = (0, got, 2, s, e, k, s, v, o) ∨ ¬ k = 2 ∧ r = (0, got, 1, s, e, k, s, v, o)) := by
  unfold fn_X5_readValue
  simp only [fn_X5_stopAt, zb_some]
  refine zw_zj (fun t => t = 0) (fun t ht1 => ?_) (fun j_1 hj1 => ?_)
  · subst ht1
    refine zw_zj (fun t => t = (e, k, s, v, o)) (fun t ht2 => ?_) (fun j_2 hj2 => ?_)
    · subst ht2
      dsimp only
      refine zw_if (fun c => ?_) (fun c => ?_)
      · refine zw_zj (fun t => t = v) (fun t ht3 => ?_) (fun j_4 hj4 => ?_)
        · subst ht3
          refine zw_if (fun d => ?_) (fun d => ?_)
          · exact zw_some (Or.inr (Or.inl ⟨c, by grind, rfl⟩))
          refine zw_if (fun d2 => ?_) (fun d2 => ?_)
          · refine zw_zb0 (zAdvN hn ha ht ho T (Or.inr (Or.inl c))) (fun r hr => ?_)
            exact zw_some (Or.inl ⟨c, by grind, r, rfl, (zTok_nx hn ha T (Or.inr (Or.inl c))).1, hr⟩)
          · exact zw_some (Or.inr (Or.inl ⟨c, by grind, rfl⟩))
        · refine zw_if (fun _ => hj4 _ rfl) (fun q => absurd rfl q)
      · exact zw_some (Or.inr (Or.inr ⟨c, rfl⟩))
    · refine zw_if (fun _ => hj2 _ rfl) (fun q => absurd rfl q)
  · refine zw_zj (fun _ => True) (fun _ _ => hj1 0 rfl) (fun j_29 hj29 => ?_)
    exact zw_if (fun _ => hj29 () trivial) (fun q => absurd trivial q)
theorem zTok_s {n a e k s v o : Int32} {f g : Nat → Int32} (T : zTok n f g a e k s v o) : zTok n f g s e k s v o := by
  have hsk := T.1
  have hj : zJn n g s s = zJn n g a s := by
    apply propext
    unfold zJn
    constructor
    · intro ⟨_, q⟩
      by_cases c : s = a
      · exact ⟨c, by rw [← c]; exact q⟩
      · have h1 := hsk.1
        have := hsk.2.1 (s - 1)
        by_cases d : a ≤ s - 1 ∧ s - 1 < s
        · rw [this d.1 d.2] at q
          exact absurd q (by decide)
        · exfalso
          apply d
          constructor <;> grind
    · intro ⟨q1, q2⟩
      exact ⟨rfl, by rw [q1]; exact q2⟩
  unfold zTok at T ⊢
  rw [hj]
  exact ⟨⟨Int32.le_refl _, fun i h1 h2 => by grind, hsk.2.2⟩, T.2⟩
/-- both have stopped, with one fault -/
noncomputable def zStop (ok fk fp w wa : Int32) : Prop := ok = 0 ∧ ¬ w = 0 ∧ fk = w ∧ fp = wa
/-- a number that may have a minus: class and reference side by side -/
noncomputable def zVR (n : Int32) (f g : Nat → Int32) (lq lo hi s fk fp wa : Int32) (r : Int32 × Int32 × Int32 × Int32 × Int32 × Int32 × Int32 × Int32 × Int32) (q : Int64 × Int32 × Int32 × Int32 × Int32) : Prop :=
  (∃ x y z, r = (1, x, fk, fp, y) ∧ q = (x.toInt64, z, s, 0, wa) ∧ lo ≤ x ∧ x ≤ hi ∧ zNext n f g z y) ∨ zStop r.1 r.2.2.1 r.2.2.2.1 q.2.2.2.1 q.2.2.2.2 ∨ (r.1 = 0 ∧ r.2.2.1 = 2 ∧ r.2.2.2.1 = s ∧ ∃ x z, q = (x.toInt64, z, s, 0, wa) ∧ lq ≤ x ∧ x < lo)
theorem zSig_n {w : Int32} (hw : ¬ w = 0) (lo hi : Int64) (n a bg wa : Int32) (g : Nat → Int32) : fn_X12_signed lo hi n a bg w wa g = some (0, a, bg, w, wa) := by
  unfold fn_X12_signed
  rw [zGw_n hw, zb_some, if_pos rfl]
theorem zNeg64 {v : Int32} (h0 : 0 ≤ v) (h1 : v ≤ 99999999) : -v.toInt64 = (-v).toInt64 := by
  have a0 := Int32.le_iff_toInt_le.mp h0
  have a1 := Int32.le_iff_toInt_le.mp h1
  rw [zi_0] at a0
  rw [show (99999999 : Int32).toInt = 99999999 by decide +kernel] at a1
  apply Int64.toInt_inj.mp
  rw [z64_i, Int64.toInt_neg, Int32.toInt_neg, z64_i, Int.bmod_def, Int.bmod_def]
  split <;> split <;> omega
set_option maxHeartbeats 1000000 in
theorem zRVal1 {n a e k s v o lq lo hi got fk fp bg wa : Int32} {f g own : Nat → Int32} (hn : n ≤ 1200) (ha : 0 ≤ a ∧ a ≤ n) (ht : zTp f g) (ho : ∀ w : Nat, w < 13 → own w = zOwT w) (T : zTok n f g a e k s v o) (hll : lq ≤ lo) : zw (fn_X5_readValue 1 lo hi got fk fp n e k s v o f own) (fun r => zw (fn_X12_signed lq.toInt64 hi.toInt64 n a bg 0 wa g) (fun q => zVR n f g lq lo hi s fk fp wa r q)) := by
  have hcc := zTok_c ht ha T 45 (by decide +kernel)
  have hsg : ∀ P : Int64 × Int32 × Int32 × Int32 × Int32 → Prop, (∀ (a2 : Int32) (m : Int32), (m = 0 ∧ a2 = s ∧ ¬ (k = 3 ∧ v = 45) ∨ m = 1 ∧ a2 = e ∧ (k = 3 ∧ v = 45)) → zw (zb (fn_X12_digits n a2 bg 0 wa g) (fun o_12 => (zj (fun (s_16 : Int64) => (zb (fn_X12_goesWell o_12.2.2.2.1) (fun o_17 => (zj (fun (s_21 : Int32 × Int32) => (zb (fn_X12_goesWell s_21.1) (fun o_22 => (if o_22 = 0 then (some ((0 : Int64), o_12.2.1, s, s_21.1, s_21.2)) else (some (s_16, o_12.2.1, s, s_21.1, s_21.2)))))) (fun j_21 => (if o_17 = 0 then (j_21 (o_12.2.2.2.1, o_12.2.2.2.2)) else (zb (fn_X12_isIn s_16 lq.toInt64 hi.toInt64) (fun o_28 => (if o_28 = 0 then (zb (fn_X12_faults 2 s o_12.2.2.2.1 o_12.2.2.2.2) (fun o_33 => (j_21 (o_33.1, o_33.2)))) else (j_21 (o_12.2.2.2.1, o_12.2.2.2.2))))))))))) (fun j_16 => (if m = 0 then (j_16 o_12.1) else (j_16 (-o_12.1))))))) P) → zw (fn_X12_signed lq.toInt64 hi.toInt64 n a bg 0 wa g) P := by
    intro P hP
    unfold fn_X12_signed
    rw [zGw_0, zb_some, if_neg (by decide)]
    refine zw_zb0 (zHere hn ha) (fun r hr => ?_)
    obtain ⟨b, s'⟩ := r
    dsimp only at hr ⊢
    obtain ⟨h1, h2⟩ := hr
    obtain rfl : s = s' := zSk_un T.1 h1
    refine zw_zj (fun m => m = 0 ∧ ¬ (k = 3 ∧ v = 45) ∨ m = 1 ∧ (k = 3 ∧ v = 45)) (fun m hm => ?_) (fun j_10 hj10 => ?_)
    · refine zw_zj (fun a2 => m = 0 ∧ a2 = s ∧ ¬ (k = 3 ∧ v = 45) ∨ m = 1 ∧ a2 = e ∧ (k = 3 ∧ v = 45)) (fun a2 ha2 => hP a2 m ha2) (fun j_11 hj11 => ?_)
      rcases hm with ⟨rfl, hm⟩ | ⟨rfl, hm⟩
      · exact zw_if (fun _ => hj11 _ (Or.inl ⟨rfl, rfl, hm⟩)) (fun q => absurd rfl q)
      · exact zw_if (fun q => absurd q (by decide)) (fun _ => hj11 _ (Or.inr ⟨rfl, (zTok_3 T hm.1).symm, hm⟩))
    · refine zw_if (fun q => hj10 1 (Or.inr ⟨rfl, hcc.mpr (by rw [← h2]; exact q)⟩)) (fun q => hj10 0 (Or.inl ⟨rfl, fun q2 => q (by rw [h2]; exact hcc.mp q2)⟩))
  -- what the reference does with its digits
  have hdg : ∀ (a2 m e2 k2 s2 v2 o2 : Int32) (r : Int32 × Int32 × Int32 × Int32 × Int32 × Int32 × Int32 × Int32 × Int32), (0 ≤ a2 ∧ a2 ≤ n) → zTok n f g a2 e2 k2 s2 v2 o2 →
      (k2 = 2 → (lo ≤ (if m = 0 then v2 else -v2) ∧ (if m = 0 then v2 else -v2) ≤ hi) → ∃ y, r = (1, (if m = 0 then v2 else -v2), fk, fp, y) ∧ zNext n f g e2 y) →
      (k2 = 2 → ¬ (lo ≤ (if m = 0 then v2 else -v2) ∧ (if m = 0 then v2 else -v2) ≤ hi) → r.1 = 0 ∧ r.2.2.1 = 2 ∧ r.2.2.2.1 = s) → (¬ k2 = 2 → r.1 = 0 ∧ r.2.2.1 = 1 ∧ r.2.2.2.1 = s2) →
      zw (zb (fn_X12_digits n a2 bg 0 wa g) (fun o_12 => (zj (fun (s_16 : Int64) => (zb (fn_X12_goesWell o_12.2.2.2.1) (fun o_17 => (zj (fun (s_21 : Int32 × Int32) => (zb (fn_X12_goesWell s_21.1) (fun o_22 => (if o_22 = 0 then (some ((0 : Int64), o_12.2.1, s, s_21.1, s_21.2)) else (some (s_16, o_12.2.1, s, s_21.1, s_21.2)))))) (fun j_21 => (if o_17 = 0 then (j_21 (o_12.2.2.2.1, o_12.2.2.2.2)) else (zb (fn_X12_isIn s_16 lq.toInt64 hi.toInt64) (fun o_28 => (if o_28 = 0 then (zb (fn_X12_faults 2 s o_12.2.2.2.1 o_12.2.2.2.2) (fun o_33 => (j_21 (o_33.1, o_33.2)))) else (j_21 (o_12.2.2.2.1, o_12.2.2.2.2))))))))))) (fun j_16 => (if m = 0 then (j_16 o_12.1) else (j_16 (-o_12.1))))))) (fun q => zVR n f g lq lo hi s fk fp wa r q) := by
    intro a2 m e2 k2 s2 v2 o2 r ha2 T2 hr1 hr2 hr3
    refine zw_zb0 (zDigM hn ha2 T2) (fun d hd => ?_)
    rcases hd with ⟨k2', v0, v1, rfl⟩ | ⟨k2', d1, d2, d3⟩
    · dsimp only
      have hx : zw (zj (fun (s_16 : Int64) => (zb (fn_X12_goesWell 0) (fun o_17 => (zj (fun (s_21 : Int32 × Int32) => (zb (fn_X12_goesWell s_21.1) (fun o_22 => (if o_22 = 0 then (some ((0 : Int64), e2, s, s_21.1, s_21.2)) else (some (s_16, e2, s, s_21.1, s_21.2)))))) (fun j_21 => (if o_17 = 0 then (j_21 (0, wa)) else (zb (fn_X12_isIn s_16 lq.toInt64 hi.toInt64) (fun o_28 => (if o_28 = 0 then (zb (fn_X12_faults 2 s 0 wa) (fun o_33 => (j_21 (o_33.1, o_33.2)))) else (j_21 (0, wa))))))))))) (fun j_16 => (if m = 0 then (j_16 v2.toInt64) else (j_16 (-v2.toInt64))))) (fun q => zVR n f g lq lo hi s fk fp wa r q) := by
        refine zw_zj (fun x => x = (if m = 0 then v2 else -v2).toInt64) (fun x hx => ?_) (fun j_16 hj16 => ?_)
        · subst hx
          simp only [zGw_0, zb_some, zIsIn, zFl_0]
          refine zw_zj (fun t => t = (0, wa) ∧ (lq ≤ (if m = 0 then v2 else -v2) ∧ (if m = 0 then v2 else -v2) ≤ hi) ∨ t = (2, s) ∧ ¬ (lq ≤ (if m = 0 then v2 else -v2) ∧ (if m = 0 then v2 else -v2) ≤ hi)) (fun t ht3 => ?_) (fun j_21 hj21 => ?_)
          · rcases ht3 with ⟨rfl, hin⟩ | ⟨rfl, hin⟩
            · dsimp only
              rw [zGw_0, zb_some, if_neg (by decide)]
              by_cases hlo : lo ≤ (if m = 0 then v2 else -v2)
              · obtain ⟨y, hy1, hy2⟩ := hr1 k2' ⟨hlo, hin.2⟩
                exact zw_some (Or.inl ⟨_, y, e2, hy1, rfl, hlo, hin.2, hy2⟩)
              · obtain ⟨y1, y2, y3⟩ := hr2 k2' (fun q => hlo q.1)
                exact zw_some (Or.inr (Or.inr ⟨y1, y2, y3, _, _, rfl, hin.1, by grind⟩))
            · dsimp only
              rw [zGw_n (by decide), zb_some, if_pos rfl]
              obtain ⟨y1, y2, y3⟩ := hr2 k2' (fun q => hin ⟨by grind, q.2⟩)
              exact zw_some (Or.inr (Or.inl ⟨y1, show ¬ (2 : Int32) = 0 by decide, y2, y3⟩))
          · refine zw_if (fun q => absurd q (by decide)) (fun _ => ?_)
            refine zw_if (fun q => ?_) (fun q => ?_)
            · have q1 := zIf0 q
              rw [z64_le, z64_le] at q1
              exact hj21 _ (Or.inr ⟨rfl, q1⟩)
            · have q1 := zIf1 q
              rw [z64_le, z64_le] at q1
              exact hj21 _ (Or.inl ⟨rfl, q1⟩)
        · refine zw_if (fun q => hj16 _ (by rw [if_pos q])) (fun q => hj16 _ (by rw [if_neg q]; exact zNeg64 v0 v1))
      exact hx
    · obtain ⟨x1, x2, x3, x4, x5⟩ := d
      dsimp only at d1 d2 d3 ⊢
      subst d2
      obtain ⟨y1, y2, y3⟩ := hr3 k2'
      simp only [zGw_n (show ¬ (1 : Int32) = 0 by decide), zb_some, if_true, zj, ite_self]
      exact zw_some (Or.inr (Or.inl ⟨y1, show ¬ (1 : Int32) = 0 by decide, y2, y3.trans d3.symm⟩))
  unfold fn_X5_readValue
  simp only [fn_X5_stopAt, zb_some, zIsSign]
  refine zw_zj (fun t => t = 0 ∧ ¬ (k = 3 ∧ v = 45) ∨ t = 1 ∧ (k = 3 ∧ v = 45)) (fun t ht1 => ?_) (fun j_1 hj1 => ?_)
  · refine zw_zj (fun w => (t = 0 ∧ w = (e, k, s, v, o)) ∨ (t = 1 ∧ zNext n f g e w)) (fun w hw => ?_) (fun j_2 hj2 => ?_)
    · have hw2 : ∃ a2, (t = 0 ∧ a2 = s ∨ t = 1 ∧ a2 = e) ∧ zNext n f g a2 w := by
        rcases hw with ⟨w1, rfl⟩ | ⟨w1, w2⟩
        · exact ⟨s, Or.inl ⟨w1, rfl⟩, ⟨(zTok_b ha T).1, (zTok_b ha T).2.1⟩, zTok_s T⟩
        · exact ⟨e, Or.inr ⟨w1, rfl⟩, w2⟩
      obtain ⟨a2, ha2, ha3, T2⟩ := hw2
      obtain ⟨e2, k2, s2, v2, o2⟩ := w
      dsimp only at T2 ⊢
      have hgo : ∀ r : Int32 × Int32 × Int32 × Int32 × Int32 × Int32 × Int32 × Int32 × Int32, (k2 = 2 → (lo ≤ (if t = 0 then v2 else -v2) ∧ (if t = 0 then v2 else -v2) ≤ hi) → ∃ y, r = (1, (if t = 0 then v2 else -v2), fk, fp, y) ∧ zNext n f g e2 y) → (k2 = 2 → ¬ (lo ≤ (if t = 0 then v2 else -v2) ∧ (if t = 0 then v2 else -v2) ≤ hi) → r.1 = 0 ∧ r.2.2.1 = 2 ∧ r.2.2.2.1 = s) → (¬ k2 = 2 → r.1 = 0 ∧ r.2.2.1 = 1 ∧ r.2.2.2.1 = s2) → zw (fn_X12_signed lq.toInt64 hi.toInt64 n a bg 0 wa g) (fun q => zVR n f g lq lo hi s fk fp wa r q) := by
        intro r h1 h2 h3
        refine hsg _ (fun a3 m hm => ?_)
        have hmt : m = t := by
          rcases ht1 with ⟨t0, t1⟩ | ⟨t0, t1⟩
          · rcases hm with ⟨m0, _, _⟩ | ⟨_, _, m1⟩
            · rw [t0, m0]
            · exact absurd m1 t1
          · rcases hm with ⟨_, _, m1⟩ | ⟨m0, _, _⟩
            · exact absurd t1 m1
            · rw [t0, m0]
        have hat : a3 = a2 := by
          rcases hm with ⟨m0, m1, _⟩ | ⟨m0, m1, _⟩
          · rcases ha2 with ⟨_, q⟩ | ⟨q, _⟩
            · rw [m1, q]
            · rw [hmt, q] at m0; exact absurd m0 (by decide)
          · rcases ha2 with ⟨q, _⟩ | ⟨_, q⟩
            · rw [hmt, q] at m0; exact absurd m0 (by decide)
            · rw [m1, q]
        rw [hmt, hat]
        exact hdg a2 t e2 k2 s2 v2 o2 r ha3 T2 h1 h2 h3
      refine zw_if (fun c => ?_) (fun c => ?_)
      · refine zw_zj (fun y => y = (if t = 0 then v2 else -v2)) (fun y hy => ?_) (fun j_4 hj4 => ?_)
        · subst hy
          refine zw_if (fun d => ?_) (fun d => ?_)
          · exact zw_some (hgo _ (fun _ q => absurd q.1 (by grind)) (fun _ _ => ⟨rfl, rfl, rfl⟩) (fun q => absurd c q))
          refine zw_if (fun d2 => ?_) (fun d2 => ?_)
          · refine zw_zb0 (zAdvN hn ha3 ht ho T2 (Or.inr (Or.inl c))) (fun z hz => ?_)
            exact zw_some (hgo _ (fun _ _ => ⟨z, rfl, (zTok_nx hn ha3 T2 (Or.inr (Or.inl c))).1, hz⟩) (fun _ q => absurd ⟨by grind, d2⟩ q) (fun q => absurd c q))
          · exact zw_some (hgo _ (fun _ q => absurd q.2 d2) (fun _ _ => ⟨rfl, rfl, rfl⟩) (fun q => absurd c q))
        · exact zw_if (fun q => hj4 _ (by rw [if_pos q])) (fun q => hj4 _ (by rw [if_neg q]))
      · exact zw_some (hgo _ (fun q => absurd q c) (fun q => absurd q c) (fun _ => ⟨rfl, rfl, rfl⟩))
    · rcases ht1 with ⟨t0, t1⟩ | ⟨t0, t1⟩
      · exact zw_if (fun _ => hj2 _ (Or.inl ⟨t0, rfl⟩)) (fun q => absurd t0 q)
      · refine zw_if (fun q => absurd (t0.symm.trans q) (by decide)) (fun _ => ?_)
        refine zw_zb0 (zAdvN hn ha ht ho T (Or.inr (Or.inr t1.1))) (fun z hz => ?_)
        exact hj2 _ (Or.inr ⟨t0, (zTok_nx hn ha T (Or.inr (Or.inr t1.1))).1, hz⟩)
  · refine zw_zj (fun _ => ¬ (k = 3 ∧ v = 45)) (fun _ q => hj1 0 (Or.inl ⟨rfl, q⟩)) (fun j_29 hj29 => ?_)
    refine zw_if (fun q => absurd q (by decide)) (fun _ => ?_)
    exact zw_if (fun q => hj29 () (zIf0 q)) (fun q => hj1 1 (Or.inr ⟨rfl, zIf1 q⟩))
/-! names that are told already -/
noncomputable def zFst (cnt : Int32) (P : Int32 → Prop) (r : Int32) : Prop := r = (-1) ∧ (∀ i : Int32, 0 ≤ i → i < cnt → ¬ P i) ∨ 0 ≤ r ∧ r < cnt ∧ P r ∧ (∀ i : Int32, 0 ≤ i → i < r → ¬ P i)
theorem zFst_un {cnt r q : Int32} {P P' : Int32 → Prop} (h : zFst cnt P r) (h' : zFst cnt P' q) (e : ∀ i : Int32, 0 ≤ i → i < cnt → (P i ↔ P' i)) : r = q := by
  rcases h with ⟨h1, h2⟩ | ⟨h1, h2, h3, h4⟩
  · rcases h' with ⟨k1, k2⟩ | ⟨k1, k2, k3, k4⟩
    · rw [h1, k1]
    · exact absurd ((e q k1 k2).mpr k3) (h2 q k1 k2)
  · rcases h' with ⟨k1, k2⟩ | ⟨k1, k2, k3, k4⟩
    · exact absurd ((e r h1 h2).mp h3) (k2 r h1 h2)
    · by_cases c : r < q
      · exact absurd ((e r h1 h2).mp h3) (k4 r h1 c)
      · by_cases d : q < r
        · exact absurd ((e q k1 k2).mpr k3) (h4 q k1 d)
        · grind
theorem zFindF {p cnt : Int32} {f1 : Nat → Int32} (hc : 0 ≤ cnt ∧ cnt ≤ 4) : zw (fn_X9_findFormat p cnt f1) (fun r => zFst cnt (fun i => f1 i.toNatClampNeg = p) r) := by
  unfold fn_X9_findFormat
  refine zw_zl32 (fun t => 0 ≤ t ∧ t ≤ cnt ∧ (∀ i : Int32, 0 ≤ i → i < t → ¬ f1 i.toNatClampNeg = p)) (fun t => cnt - t) ⟨by decide, hc.1, fun i h1 h2 => by grind⟩ (by (try dsimp only); grind) (fun t back H h => ?_)
  obtain ⟨H1, H2, H3⟩ := H
  refine zw_if (fun c => zw_some (Or.inl ⟨rfl, fun i h1 h2 => H3 i h1 (by grind)⟩)) (fun c => ?_)
  refine zw_zg32 4 (by decide) (by grind) ?_
  refine zw_if (fun d => zw_some (Or.inr ⟨H1, by grind, d, H3⟩)) (fun d => ?_)
  refine h _ ⟨by grind, by grind, fun i h1 h2 => ?_⟩ (by (try dsimp only); grind) (by (try dsimp only); grind)
  by_cases q : i = t
  · rw [q]; exact d
  · exact H3 i h1 (by grind)
theorem zFindN {p cnt : Int32} {f1 : Nat → Int32} (hc : 0 ≤ cnt ∧ cnt ≤ 14) : zw (fn_X4_find p cnt f1) (fun r => zFst cnt (fun i => f1 i.toNatClampNeg = p) r) := by
  unfold fn_X4_find
  refine zw_zl32 (fun t => 0 ≤ t ∧ t ≤ cnt ∧ (∀ i : Int32, 0 ≤ i → i < t → ¬ f1 i.toNatClampNeg = p)) (fun t => cnt - t) ⟨by decide, hc.1, fun i h1 h2 => by grind⟩ (by (try dsimp only); grind) (fun t back H h => ?_)
  obtain ⟨H1, H2, H3⟩ := H
  refine zw_if (fun c => zw_some (Or.inl ⟨rfl, fun i h1 h2 => H3 i h1 (by grind)⟩)) (fun c => ?_)
  refine zw_zg32 14 (by decide) (by grind) ?_
  refine zw_if (fun d => zw_some (Or.inr ⟨H1, by grind, d, H3⟩)) (fun d => ?_)
  refine h _ ⟨by grind, by grind, fun i h1 h2 => ?_⟩ (by (try dsimp only); grind) (by (try dsimp only); grind)
  by_cases q : i = t
  · rw [q]; exact d
  · exact H3 i h1 (by grind)
theorem zFindFM {p : Int32} {f1 f2 : Nat → Int32} (hc : 0 ≤ f1 1 ∧ f1 1 ≤ 4) : zw (fn_X12_formatNamed p 1 f1 f2) (fun r => zFst (f1 1) (fun i => f2 (4 + i).toNatClampNeg = p) r) := by
  unfold fn_X12_formatNamed
  simp only [fn_X12_f, zb_some]
  rw [show (4 * 1 : Int32) = 4 by decide +kernel, show (1 : Int32).toNatClampNeg = 1 by decide +kernel]
  refine zw_zl32 (fun t => 0 ≤ t ∧ t ≤ f1 1 ∧ (∀ i : Int32, 0 ≤ i → i < t → ¬ f2 (4 + i).toNatClampNeg = p)) (fun t => f1 1 - t) ⟨by decide, hc.1, fun i h1 h2 => by grind⟩ (by (try dsimp only); grind) (fun t back H h => ?_)
  obtain ⟨H1, H2, H3⟩ := H
  refine zw_zg32 2 (by decide) (by decide) ?_
  refine zw_if (fun c => zw_some (Or.inl ⟨rfl, fun i h1 h2 => H3 i h1 (by grind)⟩)) (fun c => ?_)
  refine zw_zg32 8 (by decide) (by grind) ?_
  refine zw_if (fun d => zw_some (Or.inr ⟨H1, by grind, d, H3⟩)) (fun d => ?_)
  refine h _ ⟨by grind, by grind, fun i h1 h2 => ?_⟩ (by (try dsimp only); grind) (by (try dsimp only); grind)
  by_cases q : i = t
  · rw [q]; exact d
  · exact H3 i h1 (by grind)
theorem zFindNM {p : Int32} {f1 f2 : Nat → Int32} (hc : 0 ≤ f1 1 ∧ f1 1 ≤ 14) : zw (fn_X12_numberNamed p 1 f1 f2) (fun r => zFst (f1 1) (fun i => f2 (14 + i).toNatClampNeg = p) r) := by
  unfold fn_X12_numberNamed
  simp only [fn_X12_n, zb_some]
  rw [show (14 * 1 : Int32) = 14 by decide +kernel, show (1 : Int32).toNatClampNeg = 1 by decide +kernel]
  refine zw_zl32 (fun t => 0 ≤ t ∧ t ≤ f1 1 ∧ (∀ i : Int32, 0 ≤ i → i < t → ¬ f2 (14 + i).toNatClampNeg = p)) (fun t => f1 1 - t) ⟨by decide, hc.1, fun i h1 h2 => by grind⟩ (by (try dsimp only); grind) (fun t back H h => ?_)
  obtain ⟨H1, H2, H3⟩ := H
  refine zw_zg32 2 (by decide) (by decide) ?_
  refine zw_if (fun c => zw_some (Or.inl ⟨rfl, fun i h1 h2 => H3 i h1 (by grind)⟩)) (fun c => ?_)
  refine zw_zg32 28 (by decide) (by grind) ?_
  refine zw_if (fun d => zw_some (Or.inr ⟨H1, by grind, d, H3⟩)) (fun d => ?_)
  refine h _ ⟨by grind, by grind, fun i h1 h2 => ?_⟩ (by (try dsimp only); grind) (by (try dsimp only); grind)
  by_cases q : i = t
  · rw [q]; exact d
  · exact H3 i h1 (by grind)
/-! class and reference, a name each -/
noncomputable def zNR (d cnt : Int32) (c m : Nat → Int32) : Prop := ∀ i : Int32, 0 ≤ i → i < cnt → zNm (c i.toNatClampNeg) (m (d + i).toNatClampNeg)
theorem zNewName_n {w : Int32} (hw : ¬ w = 0) (n a bg wa i : Int32) (f1 f2 f3 f4 f5 f6 : Nat → Int32) : fn_X12_newName n a bg w wa i f1 f2 f3 f4 f5 f6 = some (0, a, bg, w, wa) := by
  unfold fn_X12_newName
  simp only [zName_n hw, zb_some, zGw_n hw, if_true]
theorem zTold_n {w : Int32} (hw : ¬ w = 0) (n a bg wa i : Int32) (f1 f2 f3 f4 : Nat → Int32) : fn_X12_toldNumber n a bg w wa i f1 f2 f3 f4 = some (0, a, bg, w, wa) := by
  unfold fn_X12_toldNumber
  simp only [zName_n hw, zb_some, zGw_n hw, if_true, zj]
theorem zNewName {n a e k s v o got fk fp bg wa cF cN : Int32} {f g own tab nF nN : Nat → Int32} {mF mNF mN mNN : Nat → Int32} (hn : n ≤ 1200) (ha : 0 ≤ a ∧ a ≤ n) (ht : zTp f g) (ho : ∀ w : Nat, w < 13 → own w = zOwT w) (hT : (∀ k : Nat, k < 71 → tab k = zTab k)) (T : zTok n f g a e k s v o) (hF : mF 1 = cF ∧ 0 ≤ cF ∧ cF ≤ 4) (hN : mN 1 = cN ∧ 0 ≤ cN ∧ cN ≤ 14) (hnf : zNR 4 cF nF mNF) (hnn : zNR 14 cN nN mNN) :
    zw (fn_X5_readNewName got fk fp n e k s v o cF nF cN nN f own) (fun r => zw (fn_X12_newName n a bg 0 wa 1 g tab mF mNF mN mNN) (fun q => (∃ y, r = (1, v, fk, fp, y) ∧ zNm v q.1 ∧ q.2 = (e, s, 0, wa) ∧ zNext n f g e y) ∨ zStop r.1 r.2.2.1 r.2.2.2.1 q.2.2.2.1 q.2.2.2.2)) := by
  unfold fn_X5_readNewName fn_X12_newName
  simp only [fn_X5_stopAt, zb_some, zIsName]
  refine zw_if (fun c => ?_) (fun c => ?_)
  · have c := zIf0 c
    refine zw_some ?_
    refine zw_zb0 (zNameM hn ha T hT) (fun q hq => ?_)
    rcases hq with ⟨q1, _⟩ | ⟨_, q2, q3, q4⟩
    · exact absurd q1 c
    · rw [q3, zGw_n (by decide), zb_some, if_pos rfl]
      exact zw_some (Or.inr ⟨rfl, show ¬ (1 : Int32) = 0 by decide, rfl, q4.symm⟩)
  have c := zIf1 c
  refine zw_zb0 (zFindF hF.2) (fun r1 hr1 => ?_)
  have hgo : ∀ (r : Int32 × Int32 × Int32 × Int32 × Int32 × Int32 × Int32 × Int32 × Int32), (r1 = (-1) → ∀ r2, zFst cN (fun i => nN i.toNatClampNeg = v) r2 → (r2 = (-1) → ∃ y, r = (1, v, fk, fp, y) ∧ zNext n f g e y) ∧ (¬ r2 = (-1) → r.1 = 0 ∧ r.2.2.1 = 3 ∧ r.2.2.2.1 = s)) → (¬ r1 = (-1) → r.1 = 0 ∧ r.2.2.1 = 3 ∧ r.2.2.2.1 = s) → zw (zb (fn_X12_name n a bg 0 wa g tab) (fun o_1 => (zb (fn_X12_goesWell o_1.2.2.2.1) (fun o_5 => (if o_5 = 0 then (some (o_1.1, o_1.2.1, o_1.2.2.1, o_1.2.2.2.1, o_1.2.2.2.2)) else (zb (fn_X12_formatNamed o_1.1 1 mF mNF) (fun o_10 => (if o_10 = (-1) then (zb (fn_X12_numberNamed o_1.1 1 mN mNN) (fun o_19 => (if o_19 = (-1) then (some (o_1.1, o_1.2.1, o_1.2.2.1, o_1.2.2.2.1, o_1.2.2.2.2)) else (zb (fn_X12_faults 3 o_1.2.2.1 o_1.2.2.2.1 o_1.2.2.2.2) (fun o_24 => (some (o_1.1, o_1.2.1, o_1.2.2.1, o_24.1, o_24.2))))))) else (zb (fn_X12_faults 3 o_1.2.2.1 o_1.2.2.2.1 o_1.2.2.2.2) (fun o_15 => (some (o_1.1, o_1.2.1, o_1.2.2.1, o_15.1, o_15.2)))))))))))) (fun q => (∃ y, r = (1, v, fk, fp, y) ∧ zNm v q.1 ∧ q.2 = (e, s, 0, wa) ∧ zNext n f g e y) ∨ zStop r.1 r.2.2.1 r.2.2.2.1 q.2.2.2.1 q.2.2.2.2) := by
    intro r h1 h2
    refine zw_zb0 (zNameM hn ha T hT) (fun q hq => ?_)
    obtain ⟨m, q⟩ := q
    rcases hq with ⟨_, q2, q3⟩ | ⟨q1, _⟩
    · dsimp only at q2 q3 ⊢
      subst q3
      dsimp only
      rw [zGw_0, zb_some, if_neg (by decide)]
      refine zw_zb0 (zFindFM (by rw [hF.1]; exact hF.2)) (fun m1 hm1 => ?_)
      rw [hF.1] at hm1
      have e1 : r1 = m1 := zFst_un hr1 hm1 (fun i i1 i2 => zNm_eq (hnf i i1 i2) q2)
      subst e1
      refine zw_if (fun d => ?_) (fun d => ?_)
      · refine zw_zb0 (zFindNM (by rw [hN.1]; exact hN.2)) (fun m2 hm2 => ?_)
        rw [hN.1] at hm2
        have hm3 : zFst cN (fun i => nN i.toNatClampNeg = v) m2 := by
          rcases hm2 with ⟨w1, w2⟩ | ⟨w1, w2, w3, w4⟩
          · exact Or.inl ⟨w1, fun i i1 i2 q => w2 i i1 i2 ((zNm_eq (hnn i i1 i2) q2).mp q)⟩
          · exact Or.inr ⟨w1, w2, (zNm_eq (hnn m2 w1 w2) q2).mpr w3, fun i i1 i2 q => w4 i i1 i2 ((zNm_eq (hnn i i1 (by grind)) q2).mp q)⟩
        obtain ⟨z1, z2⟩ := h1 d m2 hm3
        refine zw_if (fun d2 => ?_) (fun d2 => ?_)
        · obtain ⟨y, y1, y2⟩ := z1 d2
          exact zw_some (Or.inl ⟨y, y1, q2, rfl, y2⟩)
        · rw [zFl_0, zb_some]
          obtain ⟨y1, y2, y3⟩ := z2 d2
          exact zw_some (Or.inr ⟨y1, show ¬ (3 : Int32) = 0 by decide, y2, y3⟩)
      · rw [zFl_0, zb_some]
        obtain ⟨y1, y2, y3⟩ := h2 d
        exact zw_some (Or.inr ⟨y1, show ¬ (3 : Int32) = 0 by decide, y2, y3⟩)
    · exact absurd c q1
  refine zw_if (fun d => ?_) (fun d => ?_)
  · refine zw_zb0 (zFindN hN.2) (fun r2 hr2 => ?_)
    have hu : ∀ r3, zFst cN (fun i => nN i.toNatClampNeg = v) r3 → r3 = r2 := fun r3 h3 => zFst_un h3 hr2 (fun _ _ _ => Iff.rfl)
    refine zw_if (fun d2 => ?_) (fun d2 => ?_)
    · refine zw_zb0 (zAdvN hn ha ht ho T (Or.inl c.1)) (fun z hz => ?_)
      exact zw_some (hgo _ (fun _ r3 h3 => ⟨fun _ => ⟨z, rfl, (zTok_nx hn ha T (Or.inl c.1)).1, hz⟩, fun q => absurd ((hu r3 h3).trans d2) q⟩) (fun q => absurd d q))
    · exact zw_some (hgo _ (fun _ r3 h3 => ⟨fun q => absurd ((hu r3 h3).symm.trans q) d2, fun _ => ⟨rfl, rfl, rfl⟩⟩) (fun q => absurd d q))
  · exact zw_some (hgo _ (fun q => absurd q d) (fun _ => ⟨rfl, rfl, rfl⟩))
theorem zRKnown {n a e k s v o p got fk fp : Int32} {f g own : Nat → Int32} (hn : n ≤ 1200) (ha : 0 ≤ a ∧ a ≤ n) (ht : zTp f g) (ho : ∀ w : Nat, w < 13 → own w = zOwT w) (T : zTok n f g a e k s v o) : zw (fn_X5_readKnown p got fk fp n e k s v o f own) (fun r => (k = 1 ∧ o = (-1)) ∧ ¬ p = (-1) ∧ (∃ y, r = (1, p, fk, fp, y) ∧ zNext n f g e y) ∨ (k = 1 ∧ o = (-1)) ∧ p = (-1) ∧ r = (0, got, 3, s, e, k, s, v, o) ∨ ¬ (k = 1 ∧ o = (-1)) ∧ r = (0, got, 1, s, e, k, s, v, o)) := by
  unfold fn_X5_readKnown
  simp only [fn_X5_stopAt, zb_some, zIsName]
  refine zw_if (fun c => zw_some (Or.inr (Or.inr ⟨zIf0 c, rfl⟩))) (fun c => ?_)
  have c := zIf1 c
  refine zw_if (fun d => zw_some (Or.inr (Or.inl ⟨c, d, rfl⟩))) (fun d => ?_)
  refine zw_zb0 (zAdvN hn ha ht ho T (Or.inl c.1)) (fun z hz => ?_)
  exact zw_some (Or.inl ⟨c, d, z, rfl, (zTok_nx hn ha T (Or.inl c.1)).1, hz⟩)
/-- a NUMBER's name, told already -/
theorem zTold {n a e k s v o got fk fp bg wa cN : Int32} {f g own tab nN : Nat → Int32} {mN mNN : Nat → Int32} (hn : n ≤ 1200) (ha : 0 ≤ a ∧ a ≤ n) (ht : zTp f g) (ho : ∀ w : Nat, w < 13 → own w = zOwT w) (hT : (∀ k : Nat, k < 71 → tab k = zTab k)) (T : zTok n f g a e k s v o) (hN : mN 1 = cN ∧ 0 ≤ cN ∧ cN ≤ 14) (hnn : zNR 14 cN nN mNN) :
    zw (fn_X4_find v cN nN) (fun p => zw (fn_X5_readKnown p got fk fp n e k s v o f own) (fun r => zw (fn_X12_toldNumber n a bg 0 wa 1 g tab mN mNN) (fun q => (k = 1 ∧ ∃ y, r = (1, p, fk, fp, y) ∧ 0 ≤ p ∧ p < cN ∧ q = (p, e, s, 0, wa) ∧ zNext n f g e y) ∨ zStop r.1 r.2.2.1 r.2.2.2.1 q.2.2.2.1 q.2.2.2.2))) := by
  refine zw_mono (zFindN hN.2) (fun p hp => ?_)
  refine zw_mono (zRKnown hn ha ht ho T) (fun r hr => ?_)
  unfold fn_X12_toldNumber
  refine zw_zb0 (zNameM hn ha T hT) (fun q hq => ?_)
  obtain ⟨m, q⟩ := q
  rcases hq with ⟨q1, q2, q3⟩ | ⟨q1, q2, q3, q4⟩
  · dsimp only at q2 q3 ⊢
    subst q3
    dsimp only
    simp only [zGw_0, zb_some]
    refine zw_zj (fun x => x = p) (fun x hx => ?_) (fun j_9 hj9 => ?_)
    · subst hx
      refine zw_if (fun c => absurd c (by decide)) (fun _ => ?_)
      refine zw_if (fun c => ?_) (fun c => ?_)
      · simp only [zFl_0, zb_some, zGw_n (show ¬ (3 : Int32) = 0 by decide), if_true]
        rcases hr with ⟨_, r2, _⟩ | ⟨_, _, rfl⟩ | ⟨r1, _⟩
        · exact absurd c r2
        · exact zw_some (Or.inr ⟨rfl, show ¬ (3 : Int32) = 0 by decide, rfl, rfl⟩)
        · exact absurd q1 r1
      · refine zw_if (fun c => absurd c (by decide)) (fun _ => ?_)
        rcases hr with ⟨_, r2, y, rfl, r4⟩ | ⟨_, r2, _⟩ | ⟨r1, _⟩
        · rcases hp with ⟨p1, _⟩ | ⟨p1, p2, _⟩
          · exact absurd p1 c
          · exact zw_some (Or.inl ⟨q1.1, y, rfl, p1, p2, rfl, r4⟩)
        · exact absurd r2 c
        · exact absurd q1 r1
    · refine zw_if (fun c => absurd c (by decide)) (fun _ => ?_)
      refine zw_zb0 (zFindNM (by rw [hN.1]; exact hN.2)) (fun m2 hm2 => ?_)
      rw [hN.1] at hm2
      exact hj9 _ (zFst_un hp hm2 (fun i i1 i2 => zNm_eq (hnn i i1 i2) q2)).symm
  · obtain ⟨x2, x3, x4, x5⟩ := q
    dsimp only at q3 q4 ⊢
    subst q3
    simp only [zGw_n (show ¬ (1 : Int32) = 0 by decide), zb_some, if_true, zj]
    rcases hr with ⟨r1, _⟩ | ⟨r1, _⟩ | ⟨_, rfl⟩
    · exact absurd r1 q1
    · exact absurd r1 q1
    · exact zw_some (Or.inr ⟨rfl, show ¬ (1 : Int32) = 0 by decide, rfl, q4.symm⟩)
theorem zNot45 {n a e k s v o : Int32} {f g : Nat → Int32} (ht : zTp f g) (ha : 0 ≤ a ∧ a ≤ n) (T : zTok n f g a e k s v o) : (zB n g s = 45 ∨ zK n g s = 2) → ¬ k = 1 := by
  intro h q
  have hw := zTok_k1 T q
  rcases h with h | h
  · have := (zTok_c ht ha T 45 (by decide +kernel)).mpr h
    exact absurd (q.symm.trans this.1) (by decide)
  · exact absurd (hw.1.symm.trans h) (by decide)
theorem zWhat_n {w : Int32} (hw : ¬ w = 0) (n a bg wa i : Int32) (f1 f2 f3 f4 : Nat → Int32) : fn_X12_readsWhat n a bg w wa i f1 f2 f3 f4 = some (0, 0, a, bg, w, wa) := by
  unfold fn_X12_readsWhat
  simp only [zGw_n hw, zb_some, if_true, zTold_n hw]
/-- what a side of a NUMBER's row becomes -/
noncomputable def zPut (side m x cN : Int32) (f6 f7 : Nat → Int32) (F6 F7 : Nat → Int32) : Prop := F6 = upd f6 (2 * cN + side).toNatClampNeg m ∧ F7 = upd f7 (2 * cN + side).toNatClampNeg x
theorem zPrep {side m x cN : Int32} {f6 f7 : Nat → Int32} (hc : 0 ≤ cN ∧ cN < 14) (hs : side = 0 ∨ side = 1) : fn_X4_prepare side m x cN f6 f7 = some (upd f6 (2 * cN + side).toNatClampNeg m, upd f7 (2 * cN + side).toNatClampNeg x) := by
  unfold fn_X4_prepare
  rw [if_neg (by grind)]
  unfold zj
  dsimp only
  rw [zg_in 28 (by decide +kernel) (by grind)]
  rcases hs with rfl | rfl
  · rw [if_pos rfl]
  · rw [if_neg (by decide), if_pos rfl]
set_option maxHeartbeats 1000000 in
theorem zWhat {n a e k s v o got fk fp bg wa cN side : Int32} {f g own tab nN f6 f7 : Nat → Int32} {mN mNN : Nat → Int32} (hn : n ≤ 1200) (ha : 0 ≤ a ∧ a ≤ n) (ht : zTp f g) (ho : ∀ w : Nat, w < 13 → own w = zOwT w) (hT : (∀ k : Nat, k < 71 → tab k = zTab k)) (T : zTok n f g a e k s v o) (hN : mN 1 = cN ∧ 0 ≤ cN ∧ cN < 14) (hnn : zNR 14 cN nN mNN) (hs : side = 0 ∨ side = 1) :
    zw (fn_X5_readWhat side got fk fp n e k s v o f own cN f6 f7 nN) (fun r => zw (fn_X12_readsWhat n a bg 0 wa 1 g tab mN mNN) (fun q => (∃ m x g' e' k' s' v' o' z b', r = (1, g', fk, fp, e', k', s', v', o', upd f6 (2 * cN + side).toNatClampNeg m, upd f7 (2 * cN + side).toNatClampNeg x) ∧ q = (m, x.toInt64, z, b', 0, wa) ∧ (-1) ≤ m ∧ m < cN ∧ (-1000000) ≤ x ∧ x ≤ 1000000 ∧ zNext n f g z (e', k', s', v', o')) ∨ zStop r.1 r.2.2.1 r.2.2.2.1 q.2.2.2.2.1 q.2.2.2.2.2)) := by
  have Ts := zTok_s T
  have hb := zTok_b ha T
  have hsr : 0 ≤ s ∧ s ≤ n := ⟨hb.1, hb.2.1⟩
  -- the reference, a name
  have hmN : ∀ (P : Int32 × Int64 × Int32 × Int32 × Int32 × Int32 → Prop), ¬ (zB n g s = 45 ∨ zK n g s = 2) → zw (zb (fn_X12_toldNumber n s bg 0 wa 1 g tab mN mNN) (fun o_24 => (some (o_24.1, (0 : Int64), o_24.2.1, o_24.2.2.1, o_24.2.2.2.1, o_24.2.2.2.2)))) P → zw (fn_X12_readsWhat n a bg 0 wa 1 g tab mN mNN) P := by
    intro P hno hP
    unfold fn_X12_readsWhat
    rw [zGw_0, zb_some, if_neg (by decide)]
    refine zw_zb0 (zHere hn ha) (fun r hr => ?_)
    obtain ⟨b, s'⟩ := r
    dsimp only at hr ⊢
    obtain ⟨h1, h2⟩ := hr
    obtain rfl : s = s' := zSk_un T.1 h1
    refine zw_if (fun c => absurd (Or.inl (by rw [← h2]; exact c)) hno) (fun c => ?_)
    rw [zDi_fn hn, zb_some]
    exact zw_if (fun c => hP) (fun c => absurd (Or.inr (zIf1 c)) hno)
  have hmV : ∀ (P : Int32 × Int64 × Int32 × Int32 × Int32 × Int32 → Prop), (zB n g s = 45 ∨ zK n g s = 2) → zw (zb (fn_X12_signed ((-1000000) : Int64) (1000000 : Int64) n s bg 0 wa g) (fun o_28 => (some (((-1) : Int32), o_28.1, o_28.2.1, o_28.2.2.1, o_28.2.2.2.1, o_28.2.2.2.2)))) P → zw (fn_X12_readsWhat n a bg 0 wa 1 g tab mN mNN) P := by
    intro P hyes hP
    unfold fn_X12_readsWhat
    rw [zGw_0, zb_some, if_neg (by decide)]
    refine zw_zb0 (zHere hn ha) (fun r hr => ?_)
    obtain ⟨b, s'⟩ := r
    dsimp only at hr ⊢
    obtain ⟨h1, h2⟩ := hr
    obtain rfl : s = s' := zSk_un T.1 h1
    refine zw_if (fun c => hP) (fun c => ?_)
    rw [zDi_fn hn, zb_some]
    refine zw_if (fun c2 => ?_) (fun c => hP)
    rcases hyes with q | q
    · exact absurd (h2.trans q) c
    · exact absurd q (zIf0 c2)
  unfold fn_X5_readWhat
  simp only [zPrep (f6 := f6) (f7 := f7) hN.2 hs, zb_some]
  refine zw_if (fun c => ?_) (fun c => ?_)
  · have hno : ¬ (zB n g s = 45 ∨ zK n g s = 2) := fun q => zNot45 ht ha T q c
    obtain ⟨p, hp1, r, hr1, q, hq1, hq⟩ := zTold (got := got) (fk := fk) (fp := fp) (bg := bg) (wa := wa) hn hsr ht ho hT Ts ⟨hN.1, hN.2.1, by grind⟩ hnn
    rw [hp1, zb_some, hr1, zb_some]
    rcases hq with ⟨_, y, rfl, p1, p2, rfl, y4⟩ | hst
    · dsimp only
      rw [if_neg (by decide)]
      refine zw_some (hmN _ hno ?_)
      rw [hq1, zb_some]
      exact zw_some (Or.inl ⟨p, 0, p, y.1, y.2.1, y.2.2.1, y.2.2.2.1, y.2.2.2.2, e, s, rfl, rfl, by grind, p2, by decide, by decide, y4⟩)
    · obtain ⟨s1, s2, s3, s4⟩ := hst
      rw [if_pos s1]
      refine zw_some (hmN _ hno ?_)
      rw [hq1, zb_some]
      exact zw_some (Or.inr ⟨s1, s2, s3, s4⟩)
  · obtain ⟨r, hr1, q, hq1, hq⟩ := zRVal1 (lq := -1000000) (lo := -1000000) (hi := 1000000) (got := got) (fk := fk) (fp := fp) (bg := bg) (wa := wa) hn hsr ht ho Ts (by decide)
    rw [show (-1000000 : Int32).toInt64 = -1000000 by decide +kernel, show (1000000 : Int32).toInt64 = 1000000 by decide +kernel] at hq1
    rw [hr1, zb_some]
    by_cases hy : zB n g s = 45 ∨ zK n g s = 2
    · rcases hq with ⟨x, y, z, rfl, rfl, x1, x2, x3⟩ | hst
      · dsimp only
        rw [if_neg (by decide)]
        refine zw_some (hmV _ hy ?_)
        rw [hq1, zb_some]
        exact zw_some (Or.inl ⟨-1, x, x, y.1, y.2.1, y.2.2.1, y.2.2.2.1, y.2.2.2.2, z, s, rfl, rfl, by decide, by grind, x1, x2, x3⟩)
      · rcases hst with ⟨s1, s2, s3, s4⟩ | ⟨_, _, _, x, _, _, w1, w2⟩
        · rw [if_pos s1]
          refine zw_some (hmV _ hy ?_)
          rw [hq1, zb_some]
          exact zw_some (Or.inr ⟨s1, s2, s3, s4⟩)
        · exact absurd w2 (by grind)
    · -- neither name nor number: both stop where it stands
      have hv : ¬ (k = 3 ∧ v = 45) := fun q => hy (Or.inl ((zTok_c ht ha T 45 (by decide +kernel)).mp q))
      have hk2 : ¬ k = 2 := by
        intro q
        obtain ⟨_, _, _, TT⟩ := T
        rcases TT with T | T | T | T | T | T
        · exact absurd (q.symm.trans T.2.2.1) (by decide)
        · exact absurd (q.symm.trans T.2.2.1) (by decide)
        · exact absurd (q.symm.trans T.2.2.2.1) (by decide)
        · exact absurd (q.symm.trans T.2.2.2.2.1) (by decide)
        · exact absurd (q.symm.trans T.2.2.2.1) (by decide)
        · exact hy (Or.inr T.1)
      have hst : r.1 = 0 ∧ r.2.2.1 = 1 ∧ r.2.2.2.1 = s := by
        have e1 : fn_X5_readValue 1 (-1000000) 1000000 got fk fp n e k s v o f own = some (0, got, 1, s, e, k, s, v, o) := by
          unfold fn_X5_readValue
          simp only [fn_X5_stopAt, zb_some, zIsSign, zj, if_neg hv, if_true, if_neg hk2, if_neg (show ¬ (1 : Int32) = 0 by decide)]
        rw [e1] at hr1
        have := Option.some.inj hr1
        subst this
        exact ⟨rfl, rfl, rfl⟩
      rw [if_pos hst.1]
      refine zw_some (hmN _ hy ?_)
      unfold fn_X12_toldNumber
      obtain ⟨q, hq2, hq3⟩ := zNameM (bg := bg) (wa := wa) hn hsr Ts hT
      rw [hq2, zb_some]
      rcases hq3 with ⟨w1, _⟩ | ⟨_, w2, w3, w4⟩
      · exact absurd w1.1 c
      · obtain ⟨x1, x2, x3, x4, x5⟩ := q
        dsimp only at w3 w4 ⊢
        subst w3
        simp only [zGw_n (show ¬ (1 : Int32) = 0 by decide), zb_some, if_true, zj]
        exact zw_some (Or.inr ⟨hst.1, show ¬ (1 : Int32) = 0 by decide, hst.2.1, hst.2.2.trans w4.symm⟩)
theorem zOp_n {w : Int32} (hw : ¬ w = 0) (n a bg wa : Int32) (f1 f2 : Nat → Int32) : fn_X12_readsOp n a bg w wa f1 f2 = some (0, a, bg, w, wa) := by
  unfold fn_X12_readsOp
  rw [zGw_n hw, zb_some, if_pos rfl]
set_option maxHeartbeats 1000000 in
theorem zOp {n a e k s v o got fk fp bg wa : Int32} {f g own tab : Nat → Int32} (hn : n ≤ 1200) (ha : 0 ≤ a ∧ a ≤ n) (ht : zTp f g) (ho : ∀ w : Nat, w < 13 → own w = zOwT w) (hT : (∀ k : Nat, k < 71 → tab k = zTab k)) (T : zTok n f g a e k s v o) :
    zw (fn_X5_readOp got fk fp n e k s v o f own) (fun r => zw (fn_X12_readsOp n a bg 0 wa g tab) (fun q => (∃ x y b', r = (1, x, fk, fp, y) ∧ q = (x, e, b', 0, wa) ∧ 1 ≤ x ∧ x ≤ 5 ∧ zNext n f g e y) ∨ zStop r.1 r.2.2.1 r.2.2.2.1 q.2.2.2.1 q.2.2.2.2)) := by
  have Ts := zTok_s T
  have hb := zTok_b ha T
  have hsr : 0 ≤ s ∧ s ≤ n := ⟨hb.1, hb.2.1⟩
  have c43 := zTok_c ht ha T 43 (by decide +kernel)
  have c45 := zTok_c ht ha T 45 (by decide +kernel)
  have c42 := zTok_c ht ha T 42 (by decide +kernel)
  -- the reference: a sign
  have hsg : ∀ (r : Int32 × Int32 × Int32 × Int32 × Int32 × Int32 × Int32 × Int32 × Int32) (c x : Int32), (c = 43 ∧ x = 1 ∨ c = 45 ∧ x = 2 ∨ c = 42 ∧ x = 3) → (k = 3 ∧ v = c) → (∃ y, r = (1, x, fk, fp, y) ∧ zNext n f g e y) → zw (fn_X12_readsOp n a bg 0 wa g tab) (fun q => (∃ x y b', r = (1, x, fk, fp, y) ∧ q = (x, e, b', 0, wa) ∧ 1 ≤ x ∧ x ≤ 5 ∧ zNext n f g e y) ∨ zStop r.1 r.2.2.1 r.2.2.2.1 q.2.2.2.1 q.2.2.2.2) := by
    intro r c x hcx hkv ⟨y, hy1, hy2⟩
    have hB : zB n g s = c := by
      rcases hcx with ⟨q, _⟩ | ⟨q, _⟩ | ⟨q, _⟩
      · rw [q] at hkv ⊢; exact c43.mp hkv
      · rw [q] at hkv ⊢; exact c45.mp hkv
      · rw [q] at hkv ⊢; exact c42.mp hkv
    unfold fn_X12_readsOp
    rw [zGw_0, zb_some, if_neg (by decide)]
    refine zw_zb0 (zHere hn ha) (fun t hr => ?_)
    obtain ⟨b, s'⟩ := t
    dsimp only at hr ⊢
    obtain ⟨h1, h2⟩ := hr
    obtain rfl : s = s' := zSk_un T.1 h1
    rw [hB] at h2
    subst h2
    have e3 := zTok_3 T hkv.1
    unfold zj
    dsimp only
    rcases hcx with ⟨rfl, rfl⟩ | ⟨rfl, rfl⟩ | ⟨rfl, rfl⟩
    · rw [if_pos rfl, if_pos rfl]
      exact zw_some (Or.inl ⟨1, y, bg, hy1, by rw [e3], by decide, by decide, hy2⟩)
    · rw [if_neg (by decide), if_pos rfl, if_neg (by decide), if_pos rfl]
      exact zw_some (Or.inl ⟨2, y, bg, hy1, by rw [e3], by decide, by decide, hy2⟩)
    · rw [if_neg (by decide), if_neg (by decide), if_pos rfl, if_neg (by decide), if_neg (by decide)]
      exact zw_some (Or.inl ⟨3, y, bg, hy1, by rw [e3], by decide, by decide, hy2⟩)
  -- the reference: no sign of these
  have hwd : ∀ (r : Int32 × Int32 × Int32 × Int32 × Int32 × Int32 × Int32 × Int32 × Int32), ¬ (k = 3 ∧ v = 43) → ¬ (k = 3 ∧ v = 45) → ¬ (k = 3 ∧ v = 42) → ((k = 1 ∧ o = 7) → ∃ y, r = (1, 4, fk, fp, y) ∧ zNext n f g e y) → ((k = 1 ∧ o = 8) → ∃ y, r = (1, 5, fk, fp, y) ∧ zNext n f g e y) → (¬ (k = 1 ∧ o = 7) → ¬ (k = 1 ∧ o = 8) → r.1 = 0 ∧ r.2.2.1 = 1 ∧ r.2.2.2.1 = s) → zw (fn_X12_readsOp n a bg 0 wa g tab) (fun q => (∃ x y b', r = (1, x, fk, fp, y) ∧ q = (x, e, b', 0, wa) ∧ 1 ≤ x ∧ x ≤ 5 ∧ zNext n f g e y) ∨ zStop r.1 r.2.2.1 r.2.2.2.1 q.2.2.2.1 q.2.2.2.2) := by
    intro r n43 n45 n42 h7 h8 h0
    unfold fn_X12_readsOp
    rw [zGw_0, zb_some, if_neg (by decide)]
    refine zw_zb0 (zHere hn ha) (fun t hr => ?_)
    obtain ⟨b, s'⟩ := t
    dsimp only at hr ⊢
    obtain ⟨h1, h2⟩ := hr
    obtain rfl : s = s' := zSk_un T.1 h1
    unfold zj
    dsimp only
    rw [if_neg (fun q => n43 (c43.mpr (h2.symm.trans q))), if_neg (fun q => n45 (c45.mpr (h2.symm.trans q))), if_neg (fun q => n42 (c42.mpr (h2.symm.trans q)))]
    refine zw_zb0 (zWordM hn hsr Ts) (fun t hw => ?_)
    rcases hw with ⟨hw1, rfl⟩ | ⟨hw1, rfl⟩
    · dsimp only
      simp only [zGw_0, zb_some]
      rw [if_neg (by decide)]
      obtain ⟨hrun, hk⟩ := zTok_w Ts hw1
      refine zw_zb0 (zOwnM (by grind) (by grind) hb.2.2.1 hT (fun i hi => zRun_l hb.1 hb.2.2.1 hb.2.2.2 hn hrun.2.1 i hi)) (fun p hp => ?_)
      obtain ⟨p1, p2, p3, p4⟩ := hp
      have hpo : k = 1 ∧ p = o ∨ ¬ k = 1 ∧ p = (-1) := by
        rcases hk with ⟨k1, k2, k3, k4⟩ | ⟨k1, k2⟩
        · exact Or.inl ⟨k1, zOwS_un (p4 v k2 k3) k4⟩
        · exact Or.inr ⟨by rw [k1]; decide, p3 k2⟩
      rw [if_neg (by decide)]
      refine zw_if (fun d => ?_) (fun d => ?_)
      · rw [if_pos d]
        rcases hpo with ⟨k1, po⟩ | ⟨_, po⟩
        · obtain ⟨y, y1, y2⟩ := h7 ⟨k1, by rw [← po]; exact d⟩
          exact zw_some (Or.inl ⟨4, y, s, y1, rfl, by decide, by decide, y2⟩)
        · exact absurd (po.symm.trans d) (by decide)
      refine zw_if (fun d2 => ?_) (fun d2 => ?_)
      · rw [if_neg d]
        rcases hpo with ⟨k1, po⟩ | ⟨_, po⟩
        · obtain ⟨y, y1, y2⟩ := h8 ⟨k1, by rw [← po]; exact d2⟩
          exact zw_some (Or.inl ⟨5, y, s, y1, rfl, by decide, by decide, y2⟩)
        · exact absurd (po.symm.trans d2) (by decide)
      · rw [zFl_0, zb_some, if_neg d]
        have hh : ¬ (k = 1 ∧ o = 7) ∧ ¬ (k = 1 ∧ o = 8) := by
          rcases hpo with ⟨k1, po⟩ | ⟨k1, po⟩
          · exact ⟨fun q => d (po.trans q.2), fun q => d2 (po.trans q.2)⟩
          · exact ⟨fun q => k1 q.1, fun q => k1 q.1⟩
        obtain ⟨y1, y2, y3⟩ := h0 hh.1 hh.2
        exact zw_some (Or.inr ⟨y1, show ¬ (1 : Int32) = 0 by decide, y2, y3⟩)
    · dsimp only
      have hh : ¬ k = 1 := fun q => hw1 (zTok_k1 Ts q)
      obtain ⟨y1, y2, y3⟩ := h0 (fun q => hh q.1) (fun q => hh q.1)
      simp only [zGw_n (show ¬ (1 : Int32) = 0 by decide), zb_some, if_true]
      rw [if_neg (by decide)]
      exact zw_some (Or.inr ⟨y1, show ¬ (1 : Int32) = 0 by decide, y2, y3⟩)
  unfold fn_X5_readOp
  simp only [fn_X5_stopAt, zb_some, zIsSign, zIsOwn]
  refine zw_if (fun c1 => ?_) (fun c1 => ?_)
  · have c1 := zIf0 c1
    refine zw_if (fun c2 => ?_) (fun c2 => ?_)
    · have c2 := zIf0 c2
      refine zw_if (fun c3 => ?_) (fun c3 => ?_)
      · have c3 := zIf0 c3
        refine zw_if (fun c4 => ?_) (fun c4 => ?_)
        · have c4 := zIf0 c4
          refine zw_if (fun c5 => ?_) (fun c5 => ?_)
          · have c5 := zIf0 c5
            exact zw_some (hwd _ c1 c2 c3 (fun q => absurd q c4) (fun q => absurd q c5) (fun _ _ => ⟨rfl, rfl, rfl⟩))
          · have c5 := zIf1 c5
            refine zw_zb0 (zAdvN hn ha ht ho T (Or.inl c5.1)) (fun z hz => ?_)
            exact zw_some (hwd _ c1 c2 c3 (fun q => absurd q c4) (fun _ => ⟨z, rfl, (zTok_nx hn ha T (Or.inl c5.1)).1, hz⟩) (fun _ q => absurd c5 q))
        · have c4 := zIf1 c4
          refine zw_zb0 (zAdvN hn ha ht ho T (Or.inl c4.1)) (fun z hz => ?_)
          exact zw_some (hwd _ c1 c2 c3 (fun _ => ⟨z, rfl, (zTok_nx hn ha T (Or.inl c4.1)).1, hz⟩) (fun q => absurd (c4.2.symm.trans q.2) (by decide)) (fun q => absurd c4 q))
      · have c3 := zIf1 c3
        refine zw_zb0 (zAdvN hn ha ht ho T (Or.inr (Or.inr c3.1))) (fun z hz => ?_)
        exact zw_some (hsg _ 42 3 (Or.inr (Or.inr ⟨rfl, rfl⟩)) c3 ⟨z, rfl, (zTok_nx hn ha T (Or.inr (Or.inr c3.1))).1, hz⟩)
    · have c2 := zIf1 c2
      refine zw_zb0 (zAdvN hn ha ht ho T (Or.inr (Or.inr c2.1))) (fun z hz => ?_)
      exact zw_some (hsg _ 45 2 (Or.inr (Or.inl ⟨rfl, rfl⟩)) c2 ⟨z, rfl, (zTok_nx hn ha T (Or.inr (Or.inr c2.1))).1, hz⟩)
  · have c1 := zIf1 c1
    refine zw_zb0 (zAdvN hn ha ht ho T (Or.inr (Or.inr c1.1))) (fun z hz => ?_)
    exact zw_some (hsg _ 43 1 (Or.inl ⟨rfl, rfl⟩) c1 ⟨z, rfl, (zTok_nx hn ha T (Or.inr (Or.inr c1.1))).1, hz⟩)
/-! class and reference, a step each -/
theorem zMustR {n a e k s v o w fk fp bg wa : Int32} {f g own tab : Nat → Int32} (hn : n ≤ 1200) (ha : 0 ≤ a ∧ a ≤ n) (ht : zTp f g) (ho : ∀ w : Nat, w < 13 → own w = zOwT w) (hT : (∀ k : Nat, k < 71 → tab k = zTab k)) (T : zTok n f g a e k s v o) (hw : 0 ≤ w) :
    zw (fn_X5_readOwn w fk fp n e k s v o f own) (fun r => zw (fn_X12_must w n a bg 0 wa g tab) (fun q => (∃ y, r = (1, fk, fp, y) ∧ q = (e, s, 0, wa) ∧ zNext n f g e y) ∨ zStop r.1 r.2.1 r.2.2.1 q.2.2.1 q.2.2.2)) := by
  refine zw_mono (zROwn hn ha ht ho T) (fun r hr => ?_)
  refine zw_mono (zMustM hn ha T hT hw) (fun q hq => ?_)
  rcases hr with ⟨c, y, r1, r2⟩ | ⟨c, r1⟩
  · rcases hq with ⟨_, q1⟩ | ⟨d, _⟩
    · exact Or.inl ⟨y, r1, q1, r2⟩
    · exact absurd c d
  · rcases hq with ⟨d, _⟩ | ⟨_, q1, q2⟩
    · exact absurd d c
    · subst r1
      exact Or.inr ⟨rfl, by rw [q1]; decide, q1.symm, q2.symm⟩
theorem zSignR {n a e k s v o c fk fp wa : Int32} {f g own : Nat → Int32} (hn : n ≤ 1200) (ha : 0 ≤ a ∧ a ≤ n) (ht : zTp f g) (ho : ∀ w : Nat, w < 13 → own w = zOwT w) (T : zTok n f g a e k s v o) (hc : zKd c = 3 ∧ 0 ≤ c ∧ c ≤ 127) :
    zw (fn_X5_readSign c fk fp n e k s v o f own) (fun r => zw (fn_X12_mark c n a 0 wa g) (fun q => (∃ y, r = (1, fk, fp, y) ∧ q = (e, 0, wa) ∧ zNext n f g e y) ∨ zStop r.1 r.2.1 r.2.2.1 q.2.1 q.2.2)) := by
  refine zw_mono (zRSign hn ha ht ho T) (fun r hr => ?_)
  refine zw_mono (zMarkM hn ht ha T hc) (fun q hq => ?_)
  rcases hr with ⟨c, y, r1, r2⟩ | ⟨c, r1⟩
  · rcases hq with ⟨_, q1⟩ | ⟨d, _⟩
    · exact Or.inl ⟨y, r1, q1, r2⟩
    · exact absurd c d
  · rcases hq with ⟨d, _⟩ | ⟨_, q1, q2⟩
    · exact absurd d c
    · subst r1
      exact Or.inr ⟨rfl, by rw [q1]; decide, q1.symm, q2.symm⟩
theorem zNumR {n a e k s v o lo hi got fk fp bg wa : Int32} {f g own : Nat → Int32} {lo64 hi64 : Int64} (hlo : lo64 = lo.toInt64) (hhi : hi64 = hi.toInt64) (hn : n ≤ 1200) (ha : 0 ≤ a ∧ a ≤ n) (ht : zTp f g) (ho : ∀ w : Nat, w < 13 → own w = zOwT w) (T : zTok n f g a e k s v o) :
    zw (fn_X5_readValue 0 lo hi got fk fp n e k s v o f own) (fun r => zw (fn_X12_number lo64 hi64 n a bg 0 wa g) (fun q => (∃ y, r = (1, v, fk, fp, y) ∧ q = (v.toInt64, e, s, 0, wa) ∧ lo ≤ v ∧ v ≤ hi ∧ zNext n f g e y) ∨ zStop r.1 r.2.2.1 r.2.2.2.1 q.2.2.2.1 q.2.2.2.2)) := by
  subst hlo
  subst hhi
  refine zw_mono (zRVal0 hn ha ht ho T) (fun r hr => ?_)
  refine zw_mono (zNumM _ _ hn ha T) (fun q hq => ?_)
  rw [z64_le, z64_le] at hq
  rcases hr with ⟨k2, c, y, r1, r2⟩ | ⟨k2, c, r1⟩ | ⟨k2, r1⟩
  · rcases hq with ⟨_, _, _, _, q1⟩ | ⟨_, d, _⟩ | ⟨d, _⟩
    · exact Or.inl ⟨y, r1, q1, c.1, c.2, r2⟩
    · exact absurd c d
    · exact absurd k2 d
  · rcases hq with ⟨_, d, _⟩ | ⟨_, _, q1, q2⟩ | ⟨d, _⟩
    · exact absurd d c
    · subst r1
      exact Or.inr ⟨rfl, by rw [q1]; decide, q1.symm, q2.symm⟩
    · exact absurd k2 d
  · rcases hq with ⟨d, _⟩ | ⟨d, _⟩ | ⟨_, q1, q2⟩
    · exact absurd d k2
    · exact absurd d k2
    · subst r1
      exact Or.inr ⟨rfl, by rw [q1]; decide, q1.symm, q2.symm⟩
/-- digits, and how far they may go, in the reference's own order -/
theorem zDigR {n a e k s v o lo hi got fk fp bg wa : Int32} {f g own : Nat → Int32} (hn : n ≤ 1200) (ha : 0 ≤ a ∧ a ≤ n) (ht : zTp f g) (ho : ∀ w : Nat, w < 13 → own w = zOwT w) (T : zTok n f g a e k s v o) :
    zw (fn_X5_readValue 0 lo hi got fk fp n e k s v o f own) (fun r => zw (fn_X12_digits n a bg 0 wa g) (fun q => k = 2 ∧ q = (v.toInt64, e, s, 0, wa) ∧ ((∃ y, r = (1, v, fk, fp, y) ∧ lo ≤ v ∧ v ≤ hi ∧ zNext n f g e y) ∨ ¬ (lo ≤ v ∧ v ≤ hi) ∧ r.1 = 0 ∧ r.2.2.1 = 2 ∧ r.2.2.2.1 = s) ∨ ¬ k = 2 ∧ zStop r.1 r.2.2.1 r.2.2.2.1 q.2.2.2.1 q.2.2.2.2)) := by
  refine zw_mono (zRVal0 hn ha ht ho T) (fun r hr => ?_)
  refine zw_mono (zDigM hn ha T) (fun q hq => ?_)
  rcases hr with ⟨k2, c, y, r1, r2⟩ | ⟨k2, c, r1⟩ | ⟨k2, r1⟩
  · rcases hq with ⟨_, _, _, q1⟩ | ⟨d, _⟩
    · exact Or.inl ⟨k2, q1, Or.inl ⟨y, r1, c.1, c.2, r2⟩⟩
    · exact absurd k2 d
  · rcases hq with ⟨_, _, _, q1⟩ | ⟨d, _⟩
    · subst r1
      exact Or.inl ⟨k2, q1, Or.inr ⟨c, rfl, rfl, rfl⟩⟩
    · exact absurd k2 d
  · rcases hq with ⟨d, _⟩ | ⟨_, q0, q1, q2⟩
    · exact absurd d k2
    · subst r1
      exact Or.inr ⟨k2, rfl, by rw [q1]; decide, q1.symm, q2.symm⟩
set_option maxHeartbeats 2000000 in
theorem zFormat {n a e k s v o got fk fp bg wa cF cN : Int32} {f g own tab nF nN stp mst prc : Nat → Int32} {mF mNF mN mNN mS mM mC : Nat → Int32} (hn : n ≤ 1200) (ha : 0 ≤ a ∧ a ≤ n) (ht : zTp f g) (ho : ∀ w : Nat, w < 13 → own w = zOwT w) (hT : (∀ k : Nat, k < 71 → tab k = zTab k)) (T : zTok n f g a e k s v o) (hF : mF 1 = cF ∧ 0 ≤ cF ∧ cF < 4) (hN : mN 1 = cN ∧ 0 ≤ cN ∧ cN ≤ 14) (hnf : zNR 4 cF nF mNF) (hnn : zNR 14 cN nN mNN) :
    zw (fn_X5_readFormat got fk fp n e k s v o cF nF cN nN f own stp mst prc) (fun r => zw (fn_X12_readsFormat n a bg 0 wa 1 g tab mF mNF mN mNN mS mM mC) (fun q =>
      (∃ g' e' k' s' v' o' z b' c m x1 x2 x3, r = (1, g', fk, fp, e', k', s', v', o', cF + 1, upd nF cF.toNatClampNeg c, upd stp cF.toNatClampNeg x1, upd mst cF.toNatClampNeg x2, upd prc cF.toNatClampNeg x3) ∧ q = (z, b', 0, wa, upd mF 1 (cF + 1), upd mNF (4 + cF).toNatClampNeg m, upd mS (4 + cF).toNatClampNeg x1, upd mM (4 + cF).toNatClampNeg x2, upd mC (4 + cF).toNatClampNeg x3) ∧ zNm c m ∧ (1 ≤ x1 ∧ x1 ≤ 1000000) ∧ (1 ≤ x2 ∧ x2 ≤ 1000000000) ∧ (0 ≤ x3 ∧ x3 ≤ 999) ∧ zNext n f g z (e', k', s', v', o'))
      ∨ zStop r.1 r.2.2.1 r.2.2.2.1 q.2.2.1 q.2.2.2.1 ∧ q.2.2.2.2 = (mF, mNF, mS, mM, mC))) := by
  unfold fn_X5_readFormat fn_X12_readsFormat
  obtain ⟨r1, hr1, q1, hq1, h1⟩ := zNewName (got := got) (fk := fk) (fp := fp) (bg := bg) (wa := wa) hn ha ht ho hT T ⟨hF.1, hF.2.1, by grind⟩ hN hnf hnn
  rw [hr1, hq1]
  simp only [zb_some]
  rcases h1 with ⟨y1, rfl, hnm, q1e, ha1, T1⟩ | hst
  · obtain ⟨m, q1⟩ := q1
    dsimp only at hnm q1e ⊢
    subst q1e
    dsimp only
    rw [if_neg (by decide)]
    obtain ⟨r2, hr2, q2, hq2, h2⟩ := zMustR (w := 1) (fk := fk) (fp := fp) (bg := s) (wa := wa) hn ha1 ht ho hT T1 (by decide)
    rw [hr2, hq2]
    simp only [zb_some]
    rcases h2 with ⟨y2, rfl, rfl, ha2, T2⟩ | hst
    · dsimp only
      rw [if_neg (by decide)]
      obtain ⟨r3, hr3, q3, hq3, h3⟩ := zNumR (lo := 1) (hi := 1000000) (lo64 := 1) (hi64 := 1000000) (got := v) (fk := fk) (fp := fp) (bg := y1.2.2.1) (wa := wa) (by decide +kernel) (by decide +kernel) hn ha2 ht ho T2
      rw [hr3, hq3]
      simp only [zb_some]
      rcases h3 with ⟨y3, rfl, rfl, l3, u3, ha3, T3⟩ | hst
      · dsimp only
        rw [if_neg (by decide)]
        obtain ⟨r4, hr4, q4, hq4, h4⟩ := zMustR (w := 2) (fk := fk) (fp := fp) (bg := y2.2.2.1) (wa := wa) hn ha3 ht ho hT T3 (by decide)
        rw [hr4, hq4]
        simp only [zb_some]
        rcases h4 with ⟨y4, rfl, rfl, ha4, T4⟩ | hst
        · dsimp only
          rw [if_neg (by decide)]
          obtain ⟨r5, hr5, q5, hq5, h5⟩ := zDigR (lo := 1) (hi := 1000000000) (got := y2.2.2.2.1) (fk := fk) (fp := fp) (bg := y3.2.2.1) (wa := wa) hn ha4 ht ho T4
          rw [hr5, hq5]
          simp only [zb_some]
          rcases h5 with ⟨_, rfl, ⟨y5, rfl, l5, u5, ha5, T5⟩ | ⟨h5, d1, d2, d3⟩⟩ | ⟨_, hst⟩
          · dsimp only
            have hin : (1 : Int64) ≤ y4.2.2.2.1.toInt64 ∧ y4.2.2.2.1.toInt64 ≤ 1000000000 := by
              rw [show (1 : Int64) = (1 : Int32).toInt64 by decide +kernel, show (1000000000 : Int64) = (1000000000 : Int32).toInt64 by decide +kernel, z64_le, z64_le]
              exact ⟨l5, u5⟩
            simp only [zGw_0, zb_some, zIsIn, if_pos hin, zj]
            rw [if_neg (by decide), if_neg (by decide), if_neg (by decide)]
            obtain ⟨r6, hr6, q6, hq6, h6⟩ := zMustR (w := 3) (fk := fk) (fp := fp) (bg := y4.2.2.1) (wa := wa) hn ha5 ht ho hT T5 (by decide)
            rw [hr6, hq6]
            simp only [zb_some]
            rcases h6 with ⟨y6, rfl, rfl, ha6, T6⟩ | hst
            · dsimp only
              rw [if_neg (by decide)]
              obtain ⟨r7, hr7, q7, hq7, h7⟩ := zNumR (lo := 0) (hi := 999) (lo64 := 0) (hi64 := 999) (got := y4.2.2.2.1) (fk := fk) (fp := fp) (bg := y5.2.2.1) (wa := wa) (by decide +kernel) (by decide +kernel) hn ha6 ht ho T6
              rw [hr7, hq7]
              simp only [zb_some]
              rcases h7 with ⟨y7, rfl, rfl, l7, u7, ha7, T7⟩ | hst
              · dsimp only
                rw [if_neg (by decide)]
                have hadd : fn_X9_addFormat v y2.2.2.2.1 y4.2.2.2.1 y6.2.2.2.1 cF nF stp mst prc = some (cF + 1, upd nF cF.toNatClampNeg v, upd stp cF.toNatClampNeg y2.2.2.2.1, upd mst cF.toNatClampNeg y4.2.2.2.1, upd prc cF.toNatClampNeg y6.2.2.2.1) := by
                  unfold fn_X9_addFormat
                  rw [if_neg (by grind), zg_in 4 (by decide +kernel) (by grind)]
                simp only [hadd, zb_some, zGw_0, fn_X12_f]
                rw [if_neg (by decide), show (1 : Int32).toNatClampNeg = 1 by decide +kernel, hF.1, show (4 * 1 : Int32) = 4 by decide +kernel, zg_in 2 (by decide +kernel) (by decide), zg_in 8 (by decide +kernel) (by grind)]
                simp only [z64_32]
                exact zw_some (zw_some (Or.inl ⟨_, _, _, _, _, _, _, _, _, _, _, _, _, rfl, rfl, hnm, ⟨l3, u3⟩, ⟨l5, u5⟩, ⟨l7, u7⟩, ha7, T7⟩))
              · obtain ⟨s1, s2, s3, s4⟩ := hst
                obtain ⟨x1, x2, x3, x4, x5⟩ := q7
                dsimp only at s2 s3 s4 ⊢
                rw [if_pos s1]
                simp only [zGw_n s2, zb_some, if_true]
                exact zw_some (zw_some (Or.inr ⟨⟨rfl, s2, s3, s4⟩, rfl⟩))
            · obtain ⟨s1, s2, s3, s4⟩ := hst
              obtain ⟨x2, x3, x4, x5⟩ := q6
              dsimp only at s2 s3 s4 ⊢
              rw [if_pos s1]
              simp only [zNum_n s2, zGw_n s2, zb_some, if_true]
              exact zw_some (zw_some (Or.inr ⟨⟨rfl, s2, s3, s4⟩, rfl⟩))
          · obtain ⟨x1, x2, x3, x4, x5⟩ := r5
            dsimp only at d1 d2 d3 ⊢
            have hin : ¬ ((1 : Int64) ≤ y4.2.2.2.1.toInt64 ∧ y4.2.2.2.1.toInt64 ≤ 1000000000) := by
              rw [show (1 : Int64) = (1 : Int32).toInt64 by decide +kernel, show (1000000000 : Int64) = (1000000000 : Int32).toInt64 by decide +kernel, z64_le, z64_le]
              exact h5
            rw [if_pos d1]
            simp only [zGw_0, zb_some, zIsIn, if_neg hin, zj, if_true, zFl_0, zMust_n (show ¬ (2 : Int32) = 0 by decide), zNum_n (show ¬ (2 : Int32) = 0 by decide), zGw_n (show ¬ (2 : Int32) = 0 by decide)]
            rw [if_neg (by decide)]
            exact zw_some (zw_some (Or.inr ⟨⟨rfl, show ¬ (2 : Int32) = 0 by decide, d2, d3⟩, rfl⟩))
          · obtain ⟨s1, s2, s3, s4⟩ := hst
            obtain ⟨x1, x2, x3, x4, x5⟩ := q5
            dsimp only at s2 s3 s4 ⊢
            rw [if_pos s1]
            simp only [zGw_n s2, zb_some, if_true, zj, zMust_n s2, zNum_n s2]
            exact zw_some (zw_some (Or.inr ⟨⟨rfl, s2, s3, s4⟩, rfl⟩))
        · obtain ⟨s1, s2, s3, s4⟩ := hst
          obtain ⟨x2, x3, x4, x5⟩ := q4
          dsimp only at s2 s3 s4 ⊢
          rw [if_pos s1]
          simp only [zDig_n s2, zGw_n s2, zb_some, if_true, zj, zMust_n s2, zNum_n s2]
          exact zw_some (zw_some (Or.inr ⟨⟨rfl, s2, s3, s4⟩, rfl⟩))
      · obtain ⟨s1, s2, s3, s4⟩ := hst
        obtain ⟨x1, x2, x3, x4, x5⟩ := q3
        dsimp only at s2 s3 s4 ⊢
        rw [if_pos s1]
        simp only [zDig_n s2, zGw_n s2, zb_some, if_true, zj, zMust_n s2, zNum_n s2]
        exact zw_some (zw_some (Or.inr ⟨⟨rfl, s2, s3, s4⟩, rfl⟩))
    · obtain ⟨s1, s2, s3, s4⟩ := hst
      obtain ⟨x2, x3, x4, x5⟩ := q2
      dsimp only at s2 s3 s4 ⊢
      rw [if_pos s1]
      simp only [zDig_n s2, zGw_n s2, zb_some, if_true, zj, zMust_n s2, zNum_n s2]
      exact zw_some (zw_some (Or.inr ⟨⟨rfl, s2, s3, s4⟩, rfl⟩))
  · obtain ⟨s1, s2, s3, s4⟩ := hst
    obtain ⟨x1, x2, x3, x4, x5⟩ := q1
    dsimp only at s2 s3 s4 ⊢
    rw [if_pos s1]
    simp only [zDig_n s2, zGw_n s2, zb_some, if_true, zj, zMust_n s2, zNum_n s2]
    exact zw_some (zw_some (Or.inr ⟨⟨rfl, s2, s3, s4⟩, rfl⟩))
/-! an input, a let -/
theorem zNewNum {m w cN : Int32} {mN mNN mO m1 m2 mX mW mG : Nat → Int32} (hN : mN 1 = cN ∧ 0 ≤ cN ∧ cN < 14) : fn_X12_newNumber m w 1 mN mNN mO m1 m2 mX mW mG = some (upd mNN (14 + cN).toNatClampNeg m, upd mO (14 + cN).toNatClampNeg w, upd m1 (14 + cN).toNatClampNeg (-1), upd m2 (14 + cN).toNatClampNeg (-1), upd mX (14 + cN).toNatClampNeg (-1), upd mW (14 + cN).toNatClampNeg (-1), upd mG (14 + cN).toNatClampNeg cN) := by
  unfold fn_X12_newNumber
  simp only [fn_X12_n, zb_some]
  rw [show (1 : Int32).toNatClampNeg = 1 by decide +kernel, hN.1, show (14 * 1 : Int32) = 14 by decide +kernel, zg_in 2 (by decide +kernel) (by decide)]
  have h28 : ∀ e : Option ((Nat → Int32) × (Nat → Int32) × (Nat → Int32) × (Nat → Int32) × (Nat → Int32) × (Nat → Int32) × (Nat → Int32)), zg (14 + cN) 28 e = e := fun e => zg_in 28 (by decide +kernel) (by grind) e
  simp only [h28]
/-- how many lets a NUMBER is made of, as the class keeps it -/
noncomputable def zLets (cN : Int32) (made lets : Nat → Int32) (side : Int32) : Int32 := if made (2 * cN + side).toNatClampNeg < 0 ∨ cN ≤ made (2 * cN + side).toNatClampNeg then 0 else lets (made (2 * cN + side).toNatClampNeg).toNatClampNeg
theorem zLetsOf {cN side : Int32} {made lets : Nat → Int32} (hc : 0 ≤ cN ∧ cN < 14) (hs : side = 0 ∨ side = 1) : fn_X4_letsOf side cN made lets = some (zLets cN made lets side) := by
  unfold fn_X4_letsOf zLets
  rw [zg_in 28 (by decide +kernel) (by grind)]
  generalize made (2 * cN + side).toNatClampNeg = x
  by_cases c : x < 0
  · simp [c]
  · by_cases d : cN ≤ x
    · simp [c, d]
    · have hz : ∀ e : Option Int32, zg x 14 e = e := fun e => zg_in 14 (by decide +kernel) (by grind) e
      simp [c, d, hz]
noncomputable def zDeep (w cN : Int32) (made lets : Nat → Int32) : Int32 := if w = 0 then 0 else 1 + (if zLets cN made lets 0 < zLets cN made lets 1 then zLets cN made lets 1 else zLets cN made lets 0)
theorem zAddNum {c w cN inp : Int32} {nN op fx al jn made lets : Nat → Int32} (hc : 0 ≤ cN ∧ cN < 14) : fn_X4_add c w cN inp nN op fx al jn made lets = some (cN + 1, inp + (if w = 0 then 1 else 0), upd nN cN.toNatClampNeg c, upd op cN.toNatClampNeg w, upd fx cN.toNatClampNeg (-1), upd al cN.toNatClampNeg (-1), upd jn cN.toNatClampNeg cN, upd lets cN.toNatClampNeg (zDeep w cN made lets)) := by
  unfold fn_X4_add zDeep
  rw [if_pos hc.2, zg_in 14 (by decide +kernel) hc]
  simp only [zLetsOf hc (Or.inl rfl), zLetsOf hc (Or.inr rfl), zb_some, zj]
  by_cases q : w = 0
  · simp only [if_pos q]
    rw [zg_in 14 (by decide +kernel) hc]
  · simp only [if_neg q]
    rw [zg_in 14 (by decide +kernel) hc]
set_option maxHeartbeats 2000000 in
theorem zBox {n a e k s v o got fk fp bg wa cF cN inp : Int32} {f g own tab nF nN made amt op fx al jn lets : Nat → Int32} {mF mNF mN mNN mO m1 m2 mX mW mG : Nat → Int32} {mA mB : Nat → Int64} (hn : n ≤ 1200) (ha : 0 ≤ a ∧ a ≤ n) (ht : zTp f g) (ho : ∀ w : Nat, w < 13 → own w = zOwT w) (hT : (∀ k : Nat, k < 71 → tab k = zTab k)) (T : zTok n f g a e k s v o) (hF : mF 1 = cF ∧ 0 ≤ cF ∧ cF ≤ 4) (hN : mN 1 = cN ∧ 0 ≤ cN ∧ cN < 14) (hnf : zNR 4 cF nF mNF) (hnn : zNR 14 cN nN mNN) :
    zw (fn_X5_readBox got fk fp n e k s v o cF nF cN inp nN f own made amt op fx al jn lets) (fun r => zw (fn_X12_readsInput n a bg 0 wa 1 g tab mF mNF mN mNN mO m1 m2 mX mW mG mA mB) (fun q =>
      (∃ g' e' k' s' v' o' z b' c m x y, r = (1, g', fk, fp, e', k', s', v', o', cN + 1, inp + 1, upd nN cN.toNatClampNeg c, upd (upd made (2 * cN + 0).toNatClampNeg (-1)) (2 * cN + 1).toNatClampNeg (-1), upd (upd amt (2 * cN + 0).toNatClampNeg x) (2 * cN + 1).toNatClampNeg y, upd op cN.toNatClampNeg 0, upd fx cN.toNatClampNeg (-1), upd al cN.toNatClampNeg (-1), upd jn cN.toNatClampNeg cN, upd lets cN.toNatClampNeg 0) ∧ q = (z, b', 0, wa, upd mN 1 (cN + 1), upd mNN (14 + cN).toNatClampNeg m, upd mO (14 + cN).toNatClampNeg 0, upd m1 (14 + cN).toNatClampNeg (-1), upd m2 (14 + cN).toNatClampNeg (-1), upd mX (14 + cN).toNatClampNeg (-1), upd mW (14 + cN).toNatClampNeg (-1), upd mG (14 + cN).toNatClampNeg cN, vp_updL mA (14 + cN).toNatClampNeg x.toInt64, vp_updL mB (14 + cN).toNatClampNeg y.toInt64) ∧ zNm c m ∧ (-10000000) ≤ x ∧ x ≤ y ∧ y ≤ 10000000 ∧ zNext n f g z (e', k', s', v', o'))
      ∨ zStop r.1 r.2.2.1 r.2.2.2.1 q.2.2.1 q.2.2.2.1 ∧ q.2.2.2.2 = (mN, mNN, mO, m1, m2, mX, mW, mG, mA, mB))) := by
  have h28 : ∀ {ρ : Type} (e : Option ρ), zg (14 + cN) 28 e = e := fun e => zg_in 28 (by decide +kernel) (by grind) e
  unfold fn_X5_readBox fn_X12_readsInput
  obtain ⟨r1, hr1, q1, hq1, h1⟩ := zNewName (got := got) (fk := fk) (fp := fp) (bg := bg) (wa := wa) hn ha ht ho hT T hF ⟨hN.1, hN.2.1, by grind⟩ hnf hnn
  rw [hr1, hq1]
  simp only [zb_some]
  rcases h1 with ⟨y1, rfl, hnm, q1e, ha1, T1⟩ | hst
  · obtain ⟨m, q1⟩ := q1
    dsimp only at hnm q1e ⊢
    subst q1e
    dsimp only
    rw [if_neg (by decide)]
    obtain ⟨r2, hr2, q2, hq2, h2⟩ := zRVal1 (lq := -10000000) (lo := -10000000) (hi := 10000000) (got := v) (fk := fk) (fp := fp) (bg := s) (wa := wa) hn ha1 ht ho T1 (by decide)
    rw [show (-10000000 : Int32).toInt64 = -10000000 by decide +kernel, show (10000000 : Int32).toInt64 = 10000000 by decide +kernel] at hq2
    rw [hr2, hq2]
    simp only [zb_some]
    rcases h2 with ⟨x, y2, z2, rfl, rfl, l2, u2, ha2, T2⟩ | hst | ⟨_, _, _, x, _, _, w1, w2⟩
    · dsimp only
      rw [if_neg (by decide)]
      obtain ⟨r3, hr3, q3, hq3, h3⟩ := zRVal1 (lq := -10000000) (lo := x) (hi := 10000000) (got := x) (fk := fk) (fp := fp) (bg := y1.2.2.1) (wa := wa) hn ha2 ht ho T2 l2
      rw [show (-10000000 : Int32).toInt64 = -10000000 by decide +kernel, show (10000000 : Int32).toInt64 = 10000000 by decide +kernel] at hq3
      rw [hr3, hq3]
      simp only [zb_some]
      rcases h3 with ⟨y, y3, z3, rfl, rfl, l3, u3, ha3, T3⟩ | hst | ⟨d1, d2, d3, y, z3, rfl, w1, w2⟩
      · dsimp only
        rw [if_neg (by decide)]
        have hcmp : 0 ≤ lg_cmp y.toInt64 x.toInt64 := (lg_cmp_ge _ _).mpr ((z64_le _ _).mpr l3)
        simp only [zPrep hN.2 (Or.inl rfl), zPrep hN.2 (Or.inr rfl), zAddNum hN.2, zb_some, zGw_0, zj, if_pos hcmp, zNewNum hN, fn_X12_n, if_true]
        rw [if_neg (by decide), if_neg (by decide), show (1 : Int32).toNatClampNeg = 1 by decide +kernel, hN.1, show (14 * 1 : Int32) = 14 by decide +kernel, zg_in 2 (by decide +kernel) (by decide), h28, h28]
        exact zw_some (zw_some (Or.inl ⟨_, _, _, _, _, _, _, _, _, _, _, _, rfl, rfl, hnm, l2, l3, u3, ha3, T3⟩))
      · obtain ⟨s1, s2, s3, s4⟩ := hst
        obtain ⟨x1, x2, x3, x4, x5⟩ := q3
        dsimp only at s2 s3 s4 ⊢
        rw [if_pos s1]
        simp only [zGw_n s2, zb_some, if_true, zj]
        exact zw_some (zw_some (Or.inr ⟨⟨rfl, s2, s3, s4⟩, rfl⟩))
      · obtain ⟨x1, x2, x3, x4, x5⟩ := r3
        dsimp only at d1 d2 d3 ⊢
        rw [if_pos d1]
        have hcmp : ¬ 0 ≤ lg_cmp y.toInt64 x.toInt64 := fun q => by
          have := (z64_le _ _).mp ((lg_cmp_ge _ _).mp q)
          grind
        simp only [zGw_0, zb_some, zj, if_neg hcmp, zFl_0, zGw_n (show ¬ (2 : Int32) = 0 by decide), if_true]
        rw [if_neg (by decide)]
        exact zw_some (zw_some (Or.inr ⟨⟨rfl, show ¬ (2 : Int32) = 0 by decide, d2, d3⟩, rfl⟩))
    · obtain ⟨s1, s2, s3, s4⟩ := hst
      obtain ⟨x1, x2, x3, x4, x5⟩ := q2
      dsimp only at s2 s3 s4 ⊢
      rw [if_pos s1]
      simp only [zSig_n s2, zGw_n s2, zb_some, if_true, zj]
      exact zw_some (zw_some (Or.inr ⟨⟨rfl, s2, s3, s4⟩, rfl⟩))
    · exact absurd w2 (by grind)
  · obtain ⟨s1, s2, s3, s4⟩ := hst
    obtain ⟨x1, x2, x3, x4, x5⟩ := q1
    dsimp only at s2 s3 s4 ⊢
    rw [if_pos s1]
    simp only [zSig_n s2, zGw_n s2, zb_some, if_true, zj]
    exact zw_some (zw_some (Or.inr ⟨⟨rfl, s2, s3, s4⟩, rfl⟩))
set_option maxHeartbeats 2000000 in
theorem zLetS {n a e k s v o got fk fp bg wa cF cN inp : Int32} {f g own tab nF nN made amt op fx al jn lets : Nat → Int32} {mF mNF mN mNN mO m1 m2 mX mW mG : Nat → Int32} {mA mB : Nat → Int64} (hn : n ≤ 1200) (ha : 0 ≤ a ∧ a ≤ n) (ht : zTp f g) (ho : ∀ w : Nat, w < 13 → own w = zOwT w) (hT : (∀ k : Nat, k < 71 → tab k = zTab k)) (T : zTok n f g a e k s v o) (hF : mF 1 = cF ∧ 0 ≤ cF ∧ cF ≤ 4) (hN : mN 1 = cN ∧ 0 ≤ cN ∧ cN < 14) (hnf : zNR 4 cF nF mNF) (hnn : zNR 14 cN nN mNN) :
    zw (fn_X5_readLet got fk fp n e k s v o cF nF cN inp nN f own made amt op fx al jn lets) (fun r => zw (fn_X12_readsLet n a bg 0 wa 1 g tab mF mNF mN mNN mO m1 m2 mX mW mG mA mB) (fun q =>
      (∃ g' e' k' s' v' o' z b' c m w p1 x1 p2 x2, r = (1, g', fk, fp, e', k', s', v', o', cN + 1, inp, upd nN cN.toNatClampNeg c, upd (upd made (2 * cN + 0).toNatClampNeg p1) (2 * cN + 1).toNatClampNeg p2, upd (upd amt (2 * cN + 0).toNatClampNeg x1) (2 * cN + 1).toNatClampNeg x2, upd op cN.toNatClampNeg w, upd fx cN.toNatClampNeg (-1), upd al cN.toNatClampNeg (-1), upd jn cN.toNatClampNeg cN, upd lets cN.toNatClampNeg (zDeep w cN (upd (upd made (2 * cN + 0).toNatClampNeg p1) (2 * cN + 1).toNatClampNeg p2) lets)) ∧ q.2 = (z, b', 0, wa, upd mN 1 (cN + 1), upd mNN (14 + cN).toNatClampNeg m, upd mO (14 + cN).toNatClampNeg w, upd (upd m1 (14 + cN).toNatClampNeg (-1)) (14 + cN).toNatClampNeg p1, upd (upd m2 (14 + cN).toNatClampNeg (-1)) (14 + cN).toNatClampNeg p2, upd mX (14 + cN).toNatClampNeg (-1), upd mW (14 + cN).toNatClampNeg (-1), upd mG (14 + cN).toNatClampNeg cN, vp_updL mA (14 + cN).toNatClampNeg x1.toInt64, vp_updL mB (14 + cN).toNatClampNeg x2.toInt64) ∧ zNm c m ∧ (1 ≤ w ∧ w ≤ 5) ∧ ((-1) ≤ p1 ∧ p1 < cN) ∧ ((-1) ≤ p2 ∧ p2 < cN) ∧ ((-1000000) ≤ x1 ∧ x1 ≤ 1000000) ∧ ((-1000000) ≤ x2 ∧ x2 ≤ 1000000) ∧ zNext n f g z (e', k', s', v', o'))
      ∨ zStop r.1 r.2.2.1 r.2.2.2.1 q.2.2.2.1 q.2.2.2.2.1 ∧ q.2.2.2.2.2 = (mN, mNN, mO, m1, m2, mX, mW, mG, mA, mB))) := by
  have h28 : ∀ {ρ : Type} (e : Option ρ), zg (14 + cN) 28 e = e := fun e => zg_in 28 (by decide +kernel) (by grind) e
  unfold fn_X5_readLet fn_X12_readsLet
  obtain ⟨r1, hr1, q1, hq1, h1⟩ := zNewName (got := got) (fk := fk) (fp := fp) (bg := bg) (wa := wa) hn ha ht ho hT T hF ⟨hN.1, hN.2.1, by grind⟩ hnf hnn
  rw [hr1, hq1]
  simp only [zb_some]
  rcases h1 with ⟨y1, rfl, hnm, q1e, ha1, T1⟩ | hst
  · obtain ⟨m, q1⟩ := q1
    dsimp only at hnm q1e ⊢
    subst q1e
    dsimp only
    rw [if_neg (by decide)]
    obtain ⟨r2, hr2, q2, hq2, h2⟩ := zSignR (c := 61) (fk := fk) (fp := fp) (wa := wa) hn ha1 ht ho T1 (by decide +kernel)
    rw [hr2, hq2]
    simp only [zb_some]
    rcases h2 with ⟨y2, rfl, rfl, ha2, T2⟩ | hst
    · dsimp only
      rw [if_neg (by decide)]
      obtain ⟨r3, hr3, q3, hq3, h3⟩ := zWhat (side := 0) (f6 := made) (f7 := amt) (got := v) (fk := fk) (fp := fp) (bg := s) (wa := wa) hn ha2 ht ho hT T2 hN hnn (Or.inl rfl)
      rw [hr3, hq3]
      simp only [zb_some]
      rcases h3 with ⟨p1, x1, g3, e3, k3, s3, v3, o3, z3, b3, rfl, rfl, l3, u3, lx3, ux3, ha3, T3⟩ | hst
      · dsimp only at T3 ⊢
        rw [if_neg (by decide)]
        obtain ⟨r4, hr4, q4, hq4, h4⟩ := zOp (got := g3) (fk := fk) (fp := fp) (bg := b3) (wa := wa) hn ha3 ht ho hT T3
        rw [hr4, hq4]
        simp only [zb_some]
        rcases h4 with ⟨w, y4, b4, rfl, rfl, lw, uw, ha4, T4⟩ | hst
        · dsimp only
          rw [if_neg (by decide)]
          obtain ⟨r5, hr5, q5, hq5, h5⟩ := zWhat (side := 1) (f6 := upd made (2 * cN + 0).toNatClampNeg p1) (f7 := upd amt (2 * cN + 0).toNatClampNeg x1) (got := w) (fk := fk) (fp := fp) (bg := b4) (wa := wa) hn ha4 ht ho hT T4 hN hnn (Or.inr rfl)
          rw [hr5, hq5]
          simp only [zb_some]
          rcases h5 with ⟨p2, x2, g5, e5, k5, s5, v5, o5, z5, b5, rfl, rfl, l5, u5, lx5, ux5, ha5, T5⟩ | hst
          · dsimp only at T5 ⊢
            rw [if_neg (by decide)]
            simp only [zAddNum hN.2, zb_some, zGw_0, zNewNum hN, fn_X12_n]
            rw [if_neg (show ¬ w = 0 by grind), if_neg (by decide), show (1 : Int32).toNatClampNeg = 1 by decide +kernel, hN.1, show (14 * 1 : Int32) = 14 by decide +kernel, zg_in 2 (by decide +kernel) (by decide), h28, show inp + 0 = inp by grind]
            exact zw_some (zw_some (Or.inl ⟨_, _, _, _, _, _, _, _, _, _, _, _, _, _, _, rfl, rfl, hnm, ⟨lw, uw⟩, ⟨l3, u3⟩, ⟨l5, u5⟩, ⟨lx3, ux3⟩, ⟨lx5, ux5⟩, ha5, T5⟩))
          · obtain ⟨s1, s2, s3, s4⟩ := hst
            obtain ⟨x1', x2', x3, x4, x5, x6⟩ := q5
            dsimp only at s2 s3 s4 ⊢
            rw [if_pos s1]
            simp only [zGw_n s2, zb_some, if_true]
            exact zw_some (zw_some (Or.inr ⟨⟨rfl, s2, s3, s4⟩, rfl⟩))
        · obtain ⟨s1, s2, s3, s4⟩ := hst
          obtain ⟨x1', x2', x3, x4, x5⟩ := q4
          dsimp only at s2 s3 s4 ⊢
          rw [if_pos s1]
          simp only [zWhat_n s2, zGw_n s2, zb_some, if_true]
          exact zw_some (zw_some (Or.inr ⟨⟨rfl, s2, s3, s4⟩, rfl⟩))
      · obtain ⟨s1, s2, s3, s4⟩ := hst
        obtain ⟨x1', x2', x3, x4, x5, x6⟩ := q3
        dsimp only at s2 s3 s4 ⊢
        rw [if_pos s1]
        simp only [zOp_n s2, zWhat_n s2, zGw_n s2, zb_some, if_true]
        exact zw_some (zw_some (Or.inr ⟨⟨rfl, s2, s3, s4⟩, rfl⟩))
    · obtain ⟨s1, s2, s3, s4⟩ := hst
      obtain ⟨x3, x4, x5⟩ := q2
      dsimp only at s2 s3 s4 ⊢
      rw [if_pos s1]
      simp only [zOp_n s2, zWhat_n s2, zGw_n s2, zb_some, if_true]
      exact zw_some (zw_some (Or.inr ⟨⟨rfl, s2, s3, s4⟩, rfl⟩))
  · obtain ⟨s1, s2, s3, s4⟩ := hst
    obtain ⟨x1, x2, x3, x4, x5⟩ := q1
    dsimp only at s2 s3 s4 ⊢
    rw [if_pos s1]
    simp only [zMark_n s2, zOp_n s2, zWhat_n s2, zGw_n s2, zb_some, if_true]
    exact zw_some (zw_some (Or.inr ⟨⟨rfl, s2, s3, s4⟩, rfl⟩))
theorem zg28 {ρ : Type} {p cN : Int32} (h0 : 0 ≤ p) (h1 : p < cN) (h2 : cN ≤ 14) (e : Option ρ) : zg (14 + p) 28 e = e := zg_in 28 (by decide +kernel) ⟨by lia, by lia⟩ e
/-! fixed, group, answer, cast -/
theorem zFix {i x cN : Int32} {fx : Nat → Int32} (hi : 0 ≤ i ∧ i < cN) (hc : cN ≤ 14) : fn_X4_fix i x cN fx = some (upd fx i.toNatClampNeg x) := by
  unfold fn_X4_fix
  rw [if_neg (by grind), if_neg (by grind), zg_in 14 (by decide +kernel) (by grind)]
theorem zAllow {i x cN : Int32} {fx : Nat → Int32} (hi : 0 ≤ i ∧ i < cN) (hc : cN ≤ 14) : fn_X4_allow i x cN fx = some (upd fx i.toNatClampNeg x) := by
  unfold fn_X4_allow
  rw [if_neg (by grind), if_neg (by grind), zg_in 14 (by decide +kernel) (by grind)]
set_option maxHeartbeats 2000000 in
theorem zFixed {n a e k s v o got fk fp bg wa cF cN : Int32} {f g own tab nF nN fx : Nat → Int32} {mF mNF mN mNN mX : Nat → Int32} (hn : n ≤ 1200) (ha : 0 ≤ a ∧ a ≤ n) (ht : zTp f g) (ho : ∀ w : Nat, w < 13 → own w = zOwT w) (hT : (∀ k : Nat, k < 71 → tab k = zTab k)) (T : zTok n f g a e k s v o) (hF : mF 1 = cF ∧ 0 ≤ cF ∧ cF ≤ 4) (hN : mN 1 = cN ∧ 0 ≤ cN ∧ cN ≤ 14) (hnf : zNR 4 cF nF mNF) (hnn : zNR 14 cN nN mNN) :
    zw (fn_X5_readFixed got fk fp cF n e k s v o cN nN f own nF fx) (fun r => zw (fn_X12_readsFixed n a bg 0 wa 1 g tab mN mNN mF mNF mX) (fun q =>
      (∃ g' e' k' s' v' o' z b' i x, r = (1, g', fk, fp, e', k', s', v', o', upd fx i.toNatClampNeg x) ∧ q = (z, b', 0, wa, upd mX (14 + i).toNatClampNeg x) ∧ (0 ≤ i ∧ i < cN) ∧ (0 ≤ x ∧ x < cF) ∧ zNext n f g z (e', k', s', v', o'))
      ∨ zStop r.1 r.2.2.1 r.2.2.2.1 q.2.2.1 q.2.2.2.1 ∧ q.2.2.2.2 = mX)) := by
  unfold fn_X5_readFixed fn_X12_readsFixed
  obtain ⟨p, hp, r1, hr1, q1, hq1, h1⟩ := zTold (got := got) (fk := fk) (fp := fp) (bg := bg) (wa := wa) hn ha ht ho hT T hN hnn
  simp only [hp, zb_some, hr1, hq1]
  rcases h1 with ⟨_, y1, rfl, p1, p2, rfl, ha1, T1⟩ | hst
  · dsimp only
    rw [if_neg (by decide)]
    obtain ⟨p', hp', hpf⟩ := zFindF (p := y1.2.2.2.1) (f1 := nF) hF.2
    obtain ⟨r2, hr2, h2⟩ := zRKnown (p := p') (got := p) (fk := fk) (fp := fp) hn ha1 ht ho T1
    obtain ⟨q2, hq2, h3⟩ := zNameM (bg := s) (wa := wa) hn ha1 T1 hT
    simp only [hp', zb_some, hr2, hq2]
    obtain ⟨m, q2⟩ := q2
    rcases h3 with ⟨c, hnm, q2e⟩ | ⟨c, _, q3, q4⟩
    · dsimp only at hnm q2e ⊢
      subst q2e
      dsimp only
      obtain ⟨x, hx, hxf⟩ := zFindFM (p := m) (f1 := mF) (f2 := mNF) (by rw [hF.1]; exact hF.2)
      rw [hF.1] at hxf
      have ex : p' = x := zFst_un hpf hxf (fun i i1 i2 => zNm_eq (hnf i i1 i2) hnm)
      subst ex
      simp only [zGw_0, zb_some, hx, zj, if_neg (show ¬ (1 : Int32) = 0 by decide)]
      rcases h2 with ⟨_, d, y2, rfl, ha2, T2⟩ | ⟨_, d, rfl⟩ | ⟨d, _⟩
      · dsimp only
        have hx0 : 0 ≤ p' ∧ p' < cF := by
          rcases hpf with ⟨w1, _⟩ | ⟨w1, w2, _⟩
          · exact absurd w1 d
          · exact ⟨w1, w2⟩
        rw [if_neg (by decide), if_neg d, zFix ⟨p1, p2⟩ hN.2.2]
        simp only [zb_some, zGw_0, fn_X12_n]
        rw [show (14 * 1 : Int32) = 14 by decide +kernel, zg28 p1 p2 hN.2.2]
        exact zw_some (zw_some (Or.inl ⟨_, _, _, _, _, _, _, _, p, p', rfl, rfl, ⟨p1, p2⟩, hx0, ha2, T2⟩))
      · dsimp only
        rw [if_pos rfl, if_pos d]
        simp only [zFl_0, zb_some, zGw_n (show ¬ (3 : Int32) = 0 by decide), if_true]
        exact zw_some (zw_some (Or.inr ⟨⟨rfl, show ¬ (3 : Int32) = 0 by decide, rfl, rfl⟩, rfl⟩))
      · exact absurd c d
    · obtain ⟨x2, x3, x4, x5⟩ := q2
      dsimp only at q3 q4 ⊢
      subst q3
      rcases h2 with ⟨d, _⟩ | ⟨d, _⟩ | ⟨_, rfl⟩
      · exact absurd d c
      · exact absurd d c
      · dsimp only
        rw [if_pos rfl]
        simp only [zb_some, zGw_n (show ¬ (1 : Int32) = 0 by decide), if_true, zj]
        exact zw_some (zw_some (Or.inr ⟨⟨rfl, show ¬ (1 : Int32) = 0 by decide, rfl, q4.symm⟩, rfl⟩))
  · obtain ⟨s1, s2, s3, s4⟩ := hst
    obtain ⟨x1, x2, x3, x4, x5⟩ := q1
    dsimp only at s2 s3 s4 ⊢
    rw [if_pos s1]
    simp only [zName_n s2, zGw_n s2, zb_some, if_true, zj]
    exact zw_some (zw_some (Or.inr ⟨⟨rfl, s2, s3, s4⟩, rfl⟩))
set_option maxHeartbeats 2000000 in
theorem zAnswer {n a e k s v o got fk fp bg wa cN : Int32} {f g own tab nN al : Nat → Int32} {mN mNN mW : Nat → Int32} (hn : n ≤ 1200) (ha : 0 ≤ a ∧ a ≤ n) (ht : zTp f g) (ho : ∀ w : Nat, w < 13 → own w = zOwT w) (hT : (∀ k : Nat, k < 71 → tab k = zTab k)) (T : zTok n f g a e k s v o) (hN : mN 1 = cN ∧ 0 ≤ cN ∧ cN ≤ 14) (hnn : zNR 14 cN nN mNN) :
    zw (fn_X5_readAnswer got fk fp n e k s v o cN nN f own al) (fun r => zw (fn_X12_readsAnswer n a bg 0 wa 1 g tab mN mNN mW) (fun q =>
      (∃ g' e' k' s' v' o' z b' i x, r = (1, g', fk, fp, e', k', s', v', o', upd al i.toNatClampNeg x) ∧ q = (z, b', 0, wa, upd mW (14 + i).toNatClampNeg x) ∧ (0 ≤ i ∧ i < cN) ∧ (0 ≤ x ∧ x ≤ 1000000) ∧ zNext n f g z (e', k', s', v', o'))
      ∨ zStop r.1 r.2.2.1 r.2.2.2.1 q.2.2.1 q.2.2.2.1 ∧ q.2.2.2.2 = mW)) := by
  unfold fn_X5_readAnswer fn_X12_readsAnswer
  obtain ⟨p, hp, r1, hr1, q1, hq1, h1⟩ := zTold (got := got) (fk := fk) (fp := fp) (bg := bg) (wa := wa) hn ha ht ho hT T hN hnn
  simp only [hp, zb_some, hr1, hq1]
  rcases h1 with ⟨_, y1, rfl, p1, p2, rfl, ha1, T1⟩ | hst
  · dsimp only
    rw [if_neg (by decide)]
    obtain ⟨r2, hr2, q2, hq2, h2⟩ := zMustR (w := 12) (fk := fk) (fp := fp) (bg := s) (wa := wa) hn ha1 ht ho hT T1 (by decide)
    simp only [hr2, hq2, zb_some]
    rcases h2 with ⟨y2, rfl, rfl, ha2, T2⟩ | hst
    · dsimp only
      rw [if_neg (by decide)]
      obtain ⟨r3, hr3, q3, hq3, h3⟩ := zNumR (lo := 0) (hi := 1000000) (lo64 := 0) (hi64 := 1000000) (got := p) (fk := fk) (fp := fp) (bg := y1.2.2.1) (wa := wa) (by decide +kernel) (by decide +kernel) hn ha2 ht ho T2
      simp only [hr3, hq3, zb_some]
      rcases h3 with ⟨y3, rfl, rfl, l3, u3, ha3, T3⟩ | hst
      · dsimp only
        rw [if_neg (by decide), zAllow ⟨p1, p2⟩ hN.2.2]
        simp only [zb_some, zGw_0, fn_X12_n]
        rw [if_neg (by decide), show (14 * 1 : Int32) = 14 by decide +kernel, zg_in 28 (by decide +kernel) (by grind), z64_32]
        exact zw_some (zw_some (Or.inl ⟨_, _, _, _, _, _, _, _, p, _, rfl, rfl, ⟨p1, p2⟩, ⟨l3, u3⟩, ha3, T3⟩))
      · obtain ⟨s1, s2, s3, s4⟩ := hst
        obtain ⟨x1, x2, x3, x4, x5⟩ := q3
        dsimp only at s2 s3 s4 ⊢
        rw [if_pos s1]
        simp only [zGw_n s2, zb_some, if_true]
        exact zw_some (zw_some (Or.inr ⟨⟨rfl, s2, s3, s4⟩, rfl⟩))
    · obtain ⟨s1, s2, s3, s4⟩ := hst
      obtain ⟨x2, x3, x4, x5⟩ := q2
      dsimp only at s2 s3 s4 ⊢
      rw [if_pos s1]
      simp only [zNum_n s2, zGw_n s2, zb_some, if_true]
      exact zw_some (zw_some (Or.inr ⟨⟨rfl, s2, s3, s4⟩, rfl⟩))
  · obtain ⟨s1, s2, s3, s4⟩ := hst
    obtain ⟨x1, x2, x3, x4, x5⟩ := q1
    dsimp only at s2 s3 s4 ⊢
    rw [if_pos s1]
    simp only [zMust_n s2, zNum_n s2, zGw_n s2, zb_some, if_true]
    exact zw_some (zw_some (Or.inr ⟨⟨rfl, s2, s3, s4⟩, rfl⟩))
/-- a class joined to another, as the class does it -/
theorem zJoin {i j cN : Int32} {jn : Nat → Int32} (hi : 0 ≤ i ∧ i < cN) (hj : 0 ≤ j ∧ j < cN) (hc : cN ≤ 14) : zw (fn_X4_join i j cN jn) (fun J => ∀ x : Int32, 0 ≤ x → x < cN → J x.toNatClampNeg = if jn x.toNatClampNeg = jn j.toNatClampNeg then jn i.toNatClampNeg else jn x.toNatClampNeg) := by
  unfold fn_X4_join
  rw [if_neg (by grind), if_neg (by grind), if_neg (by grind), if_pos hj.2]
  refine zw_zg32 14 (by decide) (by grind) ?_
  refine zw_zl32 (fun t => 0 ≤ t.1 ∧ t.1 ≤ cN ∧ (∀ x : Int32, 0 ≤ x → x < t.1 → t.2 x.toNatClampNeg = if jn x.toNatClampNeg = jn j.toNatClampNeg then jn i.toNatClampNeg else jn x.toNatClampNeg) ∧ (∀ x : Int32, t.1 ≤ x → x < cN → t.2 x.toNatClampNeg = jn x.toNatClampNeg)) (fun t => cN - t.1) ⟨by show (0 : Int32) ≤ 0; decide, by (try dsimp only); grind, fun x h1 h2 => by dsimp only at h2; grind, fun x _ _ => rfl⟩ (by (try dsimp only); grind) (fun t back H h => ?_)
  obtain ⟨p, J⟩ := t
  dsimp only at H h ⊢
  obtain ⟨H1, H2, H3, H4⟩ := H
  refine zw_if (fun c => zw_some (fun x h1 h2 => H3 x h1 (by grind))) (fun c => ?_)
  refine zw_zg32 14 (by decide) (by grind) ?_
  have hp := H4 p (by grind) (by grind)
  have hi' : J i.toNatClampNeg = jn i.toNatClampNeg := by
    by_cases q : i < p
    · rw [H3 i hi.1 q]
      split
      · rfl
      · rfl
    · exact H4 i (by grind) hi.2
  refine zw_if (fun d => ?_) (fun d => ?_)
  · refine zw_zg32 14 (by decide) (by grind) ?_
    refine h _ ⟨by (try dsimp only); grind, by (try dsimp only); grind, fun x h1 h2 => ?_, fun x h1 h2 => ?_⟩ (by (try dsimp only); grind) (by (try dsimp only); grind)
    · dsimp only at h2 ⊢
      by_cases q : x = p
      · rw [q, zu_at, if_pos rfl, hi', ← hp, if_pos d]
      · have hne : ¬ x.toNatClampNeg = p.toNatClampNeg := fun w => q (zinj x p h1 H1 w)
        rw [zu_at, if_neg hne]
        exact H3 x h1 (by grind)
    · dsimp only at h1 ⊢
      have hne : ¬ x.toNatClampNeg = p.toNatClampNeg := fun w => by
        have := zinj x p (by grind) H1 w
        grind
      rw [zu_at, if_neg hne]
      exact H4 x (by grind) h2
  · refine h _ ⟨by (try dsimp only); grind, by (try dsimp only); grind, fun x h1 h2 => ?_, fun x h1 h2 => ?_⟩ (by (try dsimp only); grind) (by (try dsimp only); grind)
    · dsimp only at h2 ⊢
      by_cases q : x = p
      · rw [q, hp, if_neg (by rw [← hp]; exact d)]
      · exact H3 x h1 (by grind)
    · dsimp only at h1 ⊢
      exact H4 x (by grind) h2
