/-! what a function's answer keeps: it is there, and P holds of it -/
noncomputable def zw {ρ : Type} (e : Option ρ) (P : ρ → Prop) : Prop := ∃ r, e = some r ∧ P r
theorem zw_some {ρ : Type} {r : ρ} {P : ρ → Prop} (h : P r) : zw (some r) P := ⟨r, rfl, h⟩
theorem zw_mono {ρ : Type} {e : Option ρ} {P Q : ρ → Prop} (h : zw e P) (hq : ∀ r, P r → Q r) : zw e Q := by
  obtain ⟨r, e1, e2⟩ := h
  exact ⟨r, e1, hq r e2⟩
theorem zw_if {ρ : Type} {c : Prop} [Decidable c] {a b : Option ρ} {P : ρ → Prop} (h1 : c → zw a P) (h2 : ¬ c → zw b P) : zw (if c then a else b) P := by
  by_cases h : c
  · rw [if_pos h]; exact h1 h
  · rw [if_neg h]; exact h2 h
theorem zw_zb {α ρ : Type} {o : Option α} {k : α → Option ρ} {P : ρ → Prop} {P' : α → Prop} (h : zw o P') (h2 : ∀ a, o = some a → P' a → zw (k a) P) : zw (zb o k) P := by
  obtain ⟨r, e1, e2⟩ := h
  subst e1
  exact h2 r rfl e2
theorem zw_zg {ρ : Type} {i : Int32} {n : Nat} {e : Option ρ} {P : ρ → Prop} (h : 0 ≤ i.toInt ∧ i.toInt < (n : Int)) (h2 : zw e P) : zw (zg i n e) P := by
  unfold zg
  rw [if_pos h]; exact h2
theorem zw_zd {α ρ : Type} [DecidableEq α] [OfNat α 0] {y : α} {e : Option ρ} {P : ρ → Prop} (h : ¬ y = 0) (h2 : zw e P) : zw (zd y e) P := by
  unfold zd
  rw [if_neg h]; exact h2
theorem zw_zt {ρ : Type} {v : Int32} {e : Option ρ} {P : ρ → Prop} (h : v = 0 ∨ v = 1) (h2 : zw e P) : zw (zt v e) P := by
  unfold zt
  have : v &&& 1 = v := by
    rcases h with h | h <;> (subst h; rfl)
  rw [if_pos this]; exact h2
theorem zw_za {ρ : Type} {n : Int32} {top : Nat} {e : Option ρ} {P : ρ → Prop} (h : 0 ≤ n.toInt ∧ n.toInt ≤ (top : Int)) (h2 : zw e P) : zw (za n top e) P := by
  unfold za
  have : ¬ n < 0 ∧ n.toNatClampNeg ≤ top := by
    refine ⟨fun q => ?_, ?_⟩
    · have := Int32.lt_iff_toInt_lt.mp q
      have e0 : (0 : Int32).toInt = 0 := by decide +kernel
      omega
    · show n.toInt.toNat ≤ top
      omega
  rw [if_pos this]; exact h2
theorem zw_zn {α ρ : Type} {a : α} {k : α → Option ρ} {P : ρ → Prop} (h : ∀ x, x = a → zw (k x) P) : zw (zn a k) P := h a rfl
theorem zw_zj {σ ρ : Type} {j : σ → Option ρ} {k : (σ → Option ρ) → Option ρ} {P : ρ → Prop} (J : σ → Prop) (h1 : ∀ s, J s → zw (j s) P) (h2 : ∀ j' : σ → Option ρ, (∀ s, J s → zw (j' s) P) → zw (k j') P) : zw (zj j k) P := h2 j h1
theorem zw_zl {σ ρ : Type} {B : σ → (σ → Option ρ) → Option ρ} {n : Nat} {s : σ} {P : ρ → Prop} (I : σ → Prop) (μ : σ → Nat) (hI : I s) (hn : μ s < n) (hB : ∀ (s : σ) (back : σ → Option ρ), I s → (∀ t, I t → μ t < μ s → zw (back t) P) → zw (B s back) P) : zw (zl B n s) P := by
  induction n generalizing s with
  | zero => exact absurd hn (Nat.not_lt_zero _)
  | succ n ih => exact hB s (zl B n) hI (fun t ht hm => ih ht (by omega))
theorem zu_at (f : Nat → Int32) (k : Nat) (x : Int32) (j : Nat) : upd f k x j = if j = k then x else f j := rfl
theorem zu_atL (f : Nat → Int64) (k : Nat) (x : Int64) (j : Nat) : vp_updL f k x j = if j = k then x else f j := rfl
theorem zi_1' : (1 : Int32).toInt = 1 := by decide +kernel
theorem zi_0 : (0 : Int32).toInt = 0 := by decide +kernel
theorem zw_zb0 {α ρ : Type} {o : Option α} {k : α → Option ρ} {P : ρ → Prop} {P' : α → Prop} (h : zw o P') (h2 : ∀ a, P' a → zw (k a) P) : zw (zb o k) P := zw_zb h (fun a _ h => h2 a h)
theorem zw_zg32 {ρ : Type} {i : Int32} {n : Nat} {e : Option ρ} {P : ρ → Prop} (c : Int32) (hc : c.toInt = (n : Int)) (h : 0 ≤ i ∧ i < c) (h2 : zw e P) : zw (zg i n e) P := by
  refine zw_zg ⟨?_, ?_⟩ h2
  · have := Int32.le_iff_toInt_le.mp h.1
    rw [zi_0] at this
    exact this
  · rw [← hc]; exact Int32.lt_iff_toInt_lt.mp h.2
theorem zw_za32 {ρ : Type} {i : Int32} {n : Nat} {e : Option ρ} {P : ρ → Prop} (c : Int32) (hc : c.toInt = (n : Int)) (h : 0 ≤ i ∧ i ≤ c) (h2 : zw e P) : zw (za i n e) P := by
  refine zw_za ⟨?_, ?_⟩ h2
  · have := Int32.le_iff_toInt_le.mp h.1
    rw [zi_0] at this
    exact this
  · rw [← hc]; exact Int32.le_iff_toInt_le.mp h.2
theorem zw_zgN {ρ : Type} {i : Int32} {n : Nat} {e : Option ρ} {P : ρ → Prop} (hn : n ≤ 100000) (h : 0 ≤ i ∧ i < Int32.ofNat n) (h2 : zw e P) : zw (zg i n e) P := by
  have h1 := Int32.le_iff_toInt_le.mp h.1
  rw [zi_0] at h1
  have h3 := Int32.lt_iff_toInt_lt.mp h.2
  rw [Int32.toInt_ofNat_of_lt (by omega)] at h3
  exact zw_zg ⟨h1, h3⟩ h2
theorem zofn (p : Int32) (h : 0 ≤ p) : Int32.ofNat p.toNatClampNeg = p ∧ (p.toNatClampNeg : Int) = p.toInt := by
  have h1 := Int32.le_iff_toInt_le.mp h
  rw [zi_0] at h1
  have h2 := Int32.toInt_lt p
  have h3 : (p.toNatClampNeg : Int) = p.toInt := by
    show ((p.toInt.toNat : Nat) : Int) = _
    omega
  refine ⟨Int32.toInt_inj.mp ?_, h3⟩
  rw [Int32.toInt_ofNat_of_lt (by omega), h3]
theorem z64_32 (x : Int32) : x.toInt64.toInt32 = x := by
  apply Int32.toInt_inj.mp
  simp
theorem z64_i (x : Int32) : x.toInt64.toInt = x.toInt := by simp
theorem z64_le (x y : Int32) : x.toInt64 ≤ y.toInt64 ↔ x ≤ y := by
  rw [Int64.le_iff_toInt_le, Int32.le_iff_toInt_le, z64_i, z64_i]
theorem z64_0 (x : Int32) : x.toInt64 = 0 ↔ x = 0 := by
  rw [← Int64.toInt_inj, ← Int32.toInt_inj, z64_i]
  rfl
theorem zhalf (x : Int32) (h : 0 ≤ x) : 0 ≤ x / 2 ∧ x / 2 ≤ x ∧ x / 2 + x / 2 ≤ x := by
  have h1 := Int32.le_iff_toInt_le.mp h
  rw [zi_0] at h1
  have k2 : (2 : Int32).toInt = 2 := by decide +kernel
  have h2 := zo_idiv (x := x) (y := 2) (z := x / 2) rfl rfl k2 ⟨h1, by omega⟩
  have h3 := Int32.toInt_lt x
  have h4 := zo_add (x := x / 2) (y := x / 2) rfl h2 h2 (by omega)
  refine ⟨Int32.le_iff_toInt_le.mpr ?_, Int32.le_iff_toInt_le.mpr ?_, Int32.le_iff_toInt_le.mpr ?_⟩
  · rw [h2, zi_0]; omega
  · rw [h2]; omega
  · rw [h4]; omega
theorem zw_zl32 {σ ρ : Type} {B : σ → (σ → Option ρ) → Option ρ} {s : σ} {P : ρ → Prop} (I : σ → Prop) (m : σ → Int32) (hI : I s) (hn : m s < 100000) (hB : ∀ (s : σ) (back : σ → Option ρ), I s → (∀ t, I t → 0 ≤ m t → m t < m s → zw (back t) P) → zw (B s back) P) : zw (zl B 100000 s) P := by
  refine zw_zl I (fun s => (m s).toInt.toNat) hI ?_ ?_
  · have h1 := Int32.lt_iff_toInt_lt.mp hn
    have h2 : (100000 : Int32).toInt = 100000 := by decide +kernel
    rw [h2] at h1
    show (m s).toInt.toNat < 100000
    omega
  · intro s back hI hb
    refine hB s back hI (fun t ht h0 h1 => hb t ht ?_)
    have h2 := Int32.le_iff_toInt_le.mp h0
    have h3 := Int32.lt_iff_toInt_lt.mp h1
    rw [zi_0] at h2
    show (m t).toInt.toNat < (m s).toInt.toNat
    omega
theorem zmulc {a b : Int32} {A B : Int} (ha : 0 ≤ a.toInt ∧ a.toInt ≤ A) (hb : 0 ≤ b.toInt ∧ b.toInt ≤ B) (hAB : A * B < 2147483648) : 0 ≤ (a * b).toInt ∧ (a * b).toInt ≤ A * B ∧ (a * b).toInt = a.toInt * b.toInt := by
  have h1 : a.toInt * b.toInt ≤ A * B := Int.mul_le_mul ha.2 hb.2 hb.1 (by omega)
  have h2 : 0 ≤ a.toInt * b.toInt := Int.mul_nonneg ha.1 hb.1
  have h3 := zo_mul (x := a) (y := b) (z := a * b) rfl rfl rfl ⟨by omega, by omega⟩
  rw [h3]
  exact ⟨h2, h1, rfl⟩
theorem zmul4 (a b : Int32) (h1 : 0 ≤ a) (h2 : a ≤ 1024) (h3 : 0 ≤ b) (h4 : b ≤ 4) : 0 ≤ a * b ∧ a * b ≤ 4 * a := by
  have k1 := Int32.le_iff_toInt_le.mp h1
  have k2 := Int32.le_iff_toInt_le.mp h2
  have k3 := Int32.le_iff_toInt_le.mp h3
  have k4 := Int32.le_iff_toInt_le.mp h4
  rw [zi_0] at k1 k3
  rw [show (1024 : Int32).toInt = 1024 by decide +kernel] at k2
  rw [show (4 : Int32).toInt = 4 by decide +kernel] at k4
  have h := zmulc (a := a) (b := b) ⟨k1, k2⟩ ⟨k3, k4⟩ (by omega)
  have h5 := zo_mul (x := 4) (y := a) (z := 4 * a) rfl (show (4 : Int32).toInt = 4 by decide +kernel) rfl (by omega)
  have h6 : a.toInt * b.toInt ≤ a.toInt * 4 := Int.mul_le_mul_of_nonneg_left k4 k1
  refine ⟨Int32.le_iff_toInt_le.mpr ?_, Int32.le_iff_toInt_le.mpr ?_⟩
  · rw [zi_0]; exact h.1
  · rw [h.2.2, h5]; omega
theorem zmul14 (a b : Int32) (h1 : 0 ≤ a) (h2 : a ≤ 1024) (h3 : 0 ≤ b) (h4 : b ≤ 14) : 0 ≤ a * b ∧ a * b ≤ 14336 := by
  have k1 := Int32.le_iff_toInt_le.mp h1
  have k2 := Int32.le_iff_toInt_le.mp h2
  have k3 := Int32.le_iff_toInt_le.mp h3
  have k4 := Int32.le_iff_toInt_le.mp h4
  rw [zi_0] at k1 k3
  rw [show (1024 : Int32).toInt = 1024 by decide +kernel] at k2
  rw [show (14 : Int32).toInt = 14 by decide +kernel] at k4
  have h := zmulc (a := a) (b := b) ⟨k1, k2⟩ ⟨k3, k4⟩ (by omega)
  refine ⟨Int32.le_iff_toInt_le.mpr ?_, Int32.le_iff_toInt_le.mpr ?_⟩
  · rw [zi_0]; exact h.1
  · rw [show (14336 : Int32).toInt = 14336 by decide +kernel]; omega
theorem zw_ifc {ρ : Type} {c c' : Prop} [Decidable c] {a b : Option ρ} {P : ρ → Prop} (h : c ↔ c') (h1 : c' → zw a P) (h2 : ¬ c' → zw b P) : zw (if c then a else b) P := zw_if (fun q => h1 (h.mp q)) (fun q => h2 (fun r => q (h.mpr r)))
theorem zw_zn1 {α ρ : Type} {a : α} {k : α → Option ρ} {P : ρ → Prop} (h : zw (k a) P) : zw (zn a k) P := h
theorem zvn (x : Int32) : 0 ≤ vp_nar .boolean x ∧ vp_nar .boolean x ≤ 1 := by
  have h := zo_and1 (x := x) (z := x &&& 1) rfl
  refine ⟨Int32.le_iff_toInt_le.mpr ?_, Int32.le_iff_toInt_le.mpr ?_⟩
  · rw [zi_0]; exact h.1
  · rw [show (1 : Int32).toInt = 1 by decide +kernel]; exact h.2
theorem zcl (p : Int32) (c : Int32) (n : Nat) (hc : c.toInt = (n : Int)) (h : p ≤ c) : p.toNatClampNeg ≤ n := by
  have h1 := Int32.le_iff_toInt_le.mp h
  show p.toInt.toNat ≤ n
  omega
theorem zcl1024 (p : Int32) (h : p ≤ 1024) : p.toNatClampNeg ≤ 1024 := zcl p 1024 1024 (by decide) h
theorem zcl14336 (p : Int32) (h : p ≤ 14336) : p.toNatClampNeg ≤ 14336 := zcl p 14336 14336 (by decide) h
theorem zofn' (p : Int32) (h : 0 ≤ p) : Int32.ofNat p.toNatClampNeg = p := (zofn p h).1
theorem zdbl (x : Int64) (h : 1 ≤ x) : ¬ 2 * x = 0 := by
  have h0 := Int64.le_iff_toInt_le.mp h
  rw [show (1 : Int64).toInt = 1 by decide +kernel] at h0
  rcases zl_dbl (x := x) rfl with q | q
  · omega
  · exact znz q
noncomputable def zPow (g c : Int32) : Prop := g = 0 ∧ c = 1 ∨ 0 ≤ c ∧ (g = 1 ∧ c ≤ 4 ∨ g = 2 ∧ c ≤ 16 ∨ g = 3 ∧ c ≤ 64 ∨ g = 4 ∧ c ≤ 256 ∨ g = 5 ∧ c ≤ 1024)
theorem zPow_0 : zPow 0 1 := Or.inl ⟨rfl, rfl⟩
theorem zPow_rng {g c : Int32} (h : zPow g c) : 0 ≤ c ∧ c ≤ 1024 ∧ 0 ≤ g ∧ g ≤ 5 := by
  unfold zPow at h
  rcases h with ⟨rfl, rfl⟩ | ⟨h0, ⟨rfl, h⟩ | ⟨rfl, h⟩ | ⟨rfl, h⟩ | ⟨rfl, h⟩ | ⟨rfl, h⟩⟩ <;> (refine ⟨?_, ?_, ?_, ?_⟩ <;> lia)
theorem zPow_step {g c v : Int32} (h : zPow g c) (hg : ¬ 5 ≤ g) (h1 : 0 ≤ v) (h2 : v ≤ 4) : zPow (g + 1) (c * v) := by
  have hr := zPow_rng h
  obtain ⟨k1, k2⟩ := zmul4 c v hr.1 hr.2.1 h1 h2
  generalize c * v = q at k1 k2 ⊢
  unfold zPow at h ⊢
  rcases h with ⟨rfl, rfl⟩ | ⟨h0, ⟨rfl, h⟩ | ⟨rfl, h⟩ | ⟨rfl, h⟩ | ⟨rfl, h⟩ | ⟨rfl, h⟩⟩
  · exact Or.inr ⟨k1, Or.inl ⟨rfl, by lia⟩⟩
  · exact Or.inr ⟨k1, Or.inr (Or.inl ⟨rfl, by lia⟩)⟩
  · exact Or.inr ⟨k1, Or.inr (Or.inr (Or.inl ⟨rfl, by lia⟩))⟩
  · exact Or.inr ⟨k1, Or.inr (Or.inr (Or.inr (Or.inl ⟨rfl, by lia⟩)))⟩
  · exact Or.inr ⟨k1, Or.inr (Or.inr (Or.inr (Or.inr ⟨rfl, by lia⟩)))⟩
  · exact absurd (by decide) hg
theorem zinj (x y : Int32) (hx : 0 ≤ x) (hy : 0 ≤ y) (h : x.toNatClampNeg = y.toNatClampNeg) : x = y := by
  have h1 := (zofn x hx).2
  have h2 := (zofn y hy).2
  apply Int32.toInt_inj.mp
  omega
theorem z32_in (x : Int64) (h1 : 1 ≤ x) (h2 : x ≤ 1000000) : 1 ≤ x.toInt32 ∧ x.toInt32 ≤ 1000000 := by
  have k1 := Int64.le_iff_toInt_le.mp h1
  have k2 := Int64.le_iff_toInt_le.mp h2
  rw [show (1 : Int64).toInt = 1 by decide +kernel] at k1
  rw [show (1000000 : Int64).toInt = 1000000 by decide +kernel] at k2
  have k3 : x.toInt32.toInt = x.toInt := by
    rw [Int64.toInt_toInt32, Int.bmod_def]
    split <;> omega
  refine ⟨Int32.le_iff_toInt_le.mpr ?_, Int32.le_iff_toInt_le.mpr ?_⟩
  · rw [zi_1', k3]; exact k1
  · rw [show (1000000 : Int32).toInt = 1000000 by decide +kernel, k3]; exact k2
theorem zn01 : (0 : Int32).toNatClampNeg = 0 ∧ (1 : Int32).toNatClampNeg = 1 := by decide +kernel
theorem zmid {a b x : Int32} (hx : x = b - a) (h2 : ¬ x < 2) (ha : 0 ≤ a) (ha2 : a ≤ 14) (hb0 : 0 ≤ b) (hb : b ≤ 14) : 0 ≤ a + x / 2 ∧ a + x / 2 ≤ 14 := by
  have hh := zhalf x (by lia)
  generalize x / 2 = y at hh ⊢
  constructor <;> lia
/-! parts of a row, halved: no more than 27 of them -/
noncomputable def zSg (Q : Nat → Int32) : Nat → Nat → Int
  | _, 0 => 0
  | a, m + 1 => (2 * (Q a).toInt - 1) + zSg Q (a + 1) m
theorem zSg_ge (Q : Nat → Int32) : ∀ (m a : Nat), (∀ j : Nat, a ≤ j → j < a + m → 1 ≤ (Q j).toInt) → (m : Int) ≤ zSg Q a m
  | 0, _, _ => by simp [zSg]
  | m + 1, a, h => by
    have h1 := zSg_ge Q m (a + 1) (fun j h1 h2 => h j (by omega) (by omega))
    have h2 := h a (by omega) (by omega)
    simp only [zSg]
    omega
theorem zSg_congr (Q Q' : Nat → Int32) : ∀ (m a : Nat), (∀ j : Nat, a ≤ j → j < a + m → Q' j = Q j) → zSg Q' a m = zSg Q a m
  | 0, _, _ => rfl
  | m + 1, a, h => by
    simp only [zSg]
    rw [h a (by omega) (by omega), zSg_congr Q Q' m (a + 1) (fun j h1 h2 => h j (by omega) (by omega))]
theorem zSg_snoc (Q : Nat → Int32) : ∀ (m a : Nat), zSg Q a (m + 1) = zSg Q a m + (2 * (Q (a + m)).toInt - 1)
  | 0, a => by simp [zSg]
  | m + 1, a => by
    have h := zSg_snoc Q m (a + 1)
    rw [show zSg Q a (m + 1 + 1) = (2 * (Q a).toInt - 1) + zSg Q (a + 1) (m + 1) from rfl, h, show zSg Q a (m + 1) = (2 * (Q a).toInt - 1) + zSg Q (a + 1) m from rfl, show a + 1 + m = a + (m + 1) by omega]
    omega
noncomputable def zHv (n a b : Int32) (P Q : Nat → Int32) : Prop :=
  0 ≤ a.toInt ∧ a.toInt ≤ b.toInt ∧ b.toInt ≤ 27 ∧ n.toInt ≤ 14 ∧ (∀ j : Nat, a.toInt ≤ j → (j : Int) < b.toInt → 0 ≤ (P j).toInt ∧ 1 ≤ (Q j).toInt ∧ (P j).toInt + (Q j).toInt ≤ n.toInt) ∧ a.toInt + zSg Q a.toInt.toNat (b.toInt - a.toInt).toNat ≤ 27
theorem zle_c {x c : Int32} {k : Int} (hc : c.toInt = k) (h : x.toInt ≤ k) : x ≤ c := Int32.le_iff_toInt_le.mpr (by omega)
theorem zcc_le {x c : Int32} {k : Int} (hc : c.toInt = k) (h : k ≤ x.toInt) : c ≤ x := Int32.le_iff_toInt_le.mpr (by omega)
theorem zi_1 : (1 : Int32).toInt = 1 := by decide +kernel
theorem zi_2 : (2 : Int32).toInt = 2 := by decide +kernel
theorem zHv_get {n a b : Int32} {P Q : Nat → Int32} (h : zHv n a b P Q) (hab : ¬ b ≤ a) : 0 ≤ a ∧ a ≤ 26 ∧ b ≤ 27 ∧ 0 ≤ P a.toNatClampNeg ∧ P a.toNatClampNeg ≤ 13 ∧ 1 ≤ Q a.toNatClampNeg ∧ Q a.toNatClampNeg ≤ 14 ∧ P a.toNatClampNeg + Q a.toNatClampNeg ≤ 14 := by
  obtain ⟨h1, h2, h3, h4, h6, h7⟩ := h
  have k : a.toInt < b.toInt := by
    have : ¬ b.toInt ≤ a.toInt := fun q => hab (Int32.le_iff_toInt_le.mpr q)
    omega
  have ka : (a.toNatClampNeg : Int) = a.toInt := show ((a.toInt.toNat : Nat) : Int) = a.toInt by omega
  obtain ⟨p1, p2, p3⟩ := h6 a.toNatClampNeg (by omega) (by omega)
  have s := zo_add (x := P a.toNatClampNeg) (y := Q a.toNatClampNeg) rfl rfl rfl (by omega)
  exact ⟨zcc_le zi_0 h1, zle_c (k := 26) (by decide +kernel) (by omega), zle_c (k := 27) (by decide +kernel) (by omega), zcc_le zi_0 p1, zle_c (k := 13) (by decide +kernel) (by omega), zcc_le zi_1 p2, zle_c (k := 14) (by decide +kernel) (by omega), zle_c (k := 14) (by decide +kernel) (by omega)⟩
theorem zHv_skip {n a b : Int32} {P Q : Nat → Int32} (h : zHv n a b P Q) (hab : ¬ b ≤ a) : zHv n (a + 1) b P Q := by
  obtain ⟨h1, h2, h3, h4, h6, h7⟩ := h
  have k : a.toInt < b.toInt := by
    have : ¬ b.toInt ≤ a.toInt := fun q => hab (Int32.le_iff_toInt_le.mpr q)
    omega
  have ea := zo_add (x := a) (y := 1) (z := a + 1) rfl rfl zi_1 (by omega)
  obtain ⟨p1, p2, p3⟩ := h6 a.toInt.toNat (by omega) (by omega)
  rw [show (b.toInt - a.toInt).toNat = (b.toInt - (a + 1).toInt).toNat + 1 by omega] at h7
  rw [show zSg Q a.toInt.toNat ((b.toInt - (a + 1).toInt).toNat + 1) = (2 * (Q a.toInt.toNat).toInt - 1) + zSg Q (a.toInt.toNat + 1) (b.toInt - (a + 1).toInt).toNat from rfl, show a.toInt.toNat + 1 = (a + 1).toInt.toNat by omega] at h7
  exact ⟨by omega, by omega, h3, h4, fun j q1 q2 => h6 j (by omega) q2, by omega⟩
theorem zHv_split {n a b x y : Int32} {P Q : Nat → Int32} (h : zHv n a b P Q) (hab : ¬ b ≤ a) (hQ : 2 ≤ Q a.toNatClampNeg) (hx : x = P a.toNatClampNeg + Q a.toNatClampNeg / 2) (hy : y = Q a.toNatClampNeg - Q a.toNatClampNeg / 2) : 0 ≤ b ∧ b ≤ 25 ∧ zHv n (a + 1) (b + 2) (upd (upd P b.toNatClampNeg (P a.toNatClampNeg)) (b + 1).toNatClampNeg x) (upd (upd Q b.toNatClampNeg (Q a.toNatClampNeg / 2)) (b + 1).toNatClampNeg y) := by
  obtain ⟨h1, h2, h3, h4, h6, h7⟩ := h
  have k : a.toInt < b.toInt := by
    have : ¬ b.toInt ≤ a.toInt := fun q => hab (Int32.le_iff_toInt_le.mpr q)
    omega
  have hQ' := Int32.le_iff_toInt_le.mp hQ
  rw [zi_2] at hQ'
  have na : a.toNatClampNeg = a.toInt.toNat := rfl
  rw [na] at hx hy hQ' ⊢
  obtain ⟨p1, p2, p3⟩ := h6 a.toInt.toNat (by omega) (by omega)
  have ea := zo_add (x := a) (y := 1) (z := a + 1) rfl rfl zi_1 (by omega)
  have eb := zo_add (x := b) (y := 2) (z := b + 2) rfl rfl zi_2 (by omega)
  have eb1 := zo_add (x := b) (y := 1) (z := b + 1) rfl rfl zi_1 (by omega)
  have eh := zo_idiv (x := Q a.toInt.toNat) (y := 2) rfl rfl zi_2 (by omega)
  have ex := zo_add (x := P a.toInt.toNat) (y := Q a.toInt.toNat / 2) hx rfl eh (by omega)
  have ey := zo_sub (x := Q a.toInt.toNat) (y := Q a.toInt.toNat / 2) hy rfl eh (by omega)
  rw [show (b.toInt - a.toInt).toNat = (b.toInt - a.toInt).toNat - 1 + 1 by omega] at h7
  rw [show zSg Q a.toInt.toNat ((b.toInt - a.toInt).toNat - 1 + 1) = (2 * (Q a.toInt.toNat).toInt - 1) + zSg Q (a.toInt.toNat + 1) ((b.toInt - a.toInt).toNat - 1) from rfl] at h7
  have hge := zSg_ge Q ((b.toInt - a.toInt).toNat - 1) (a.toInt.toNat + 1) (fun j q1 q2 => (h6 j (by omega) (by omega)).2.1)
  have hb25 : b.toInt ≤ 25 := by omega
  have nb : b.toNatClampNeg = b.toInt.toNat := rfl
  have nb1 : (b + 1).toNatClampNeg = b.toInt.toNat + 1 := show (b + 1).toInt.toNat = _ by omega
  rw [nb, nb1]
  have Q1 : ∀ j : Nat, j < b.toInt.toNat → upd (upd Q b.toInt.toNat (Q a.toInt.toNat / 2)) (b.toInt.toNat + 1) y j = Q j := fun j q => by
    rw [zu_at, if_neg (by omega), zu_at, if_neg (by omega)]
  have Q2 : upd (upd Q b.toInt.toNat (Q a.toInt.toNat / 2)) (b.toInt.toNat + 1) y b.toInt.toNat = Q a.toInt.toNat / 2 := by
    rw [zu_at, if_neg (by omega), zu_at, if_pos rfl]
  have Q3 : upd (upd Q b.toInt.toNat (Q a.toInt.toNat / 2)) (b.toInt.toNat + 1) y (b.toInt.toNat + 1) = y := by
    rw [zu_at, if_pos rfl]
  have P1 : ∀ j : Nat, j < b.toInt.toNat → upd (upd P b.toInt.toNat (P a.toInt.toNat)) (b.toInt.toNat + 1) x j = P j := fun j q => by
    rw [zu_at, if_neg (by omega), zu_at, if_neg (by omega)]
  have P2 : upd (upd P b.toInt.toNat (P a.toInt.toNat)) (b.toInt.toNat + 1) x b.toInt.toNat = P a.toInt.toNat := by
    rw [zu_at, if_neg (by omega), zu_at, if_pos rfl]
  have P3 : upd (upd P b.toInt.toNat (P a.toInt.toNat)) (b.toInt.toNat + 1) x (b.toInt.toNat + 1) = x := by
    rw [zu_at, if_pos rfl]
  generalize upd (upd Q b.toInt.toNat (Q a.toInt.toNat / 2)) (b.toInt.toNat + 1) y = Q' at Q1 Q2 Q3 ⊢
  generalize upd (upd P b.toInt.toNat (P a.toInt.toNat)) (b.toInt.toNat + 1) x = P' at P1 P2 P3 ⊢
  refine ⟨zcc_le zi_0 (by omega), zle_c (k := 25) (by decide +kernel) hb25, by omega, by omega, by omega, h4, fun j q1 q2 => ?_, ?_⟩
  · rcases (show j < b.toInt.toNat ∨ j = b.toInt.toNat ∨ j = b.toInt.toNat + 1 by omega) with q | q | q
    · rw [P1 j q, Q1 j q]
      exact h6 j (by omega) (by omega)
    · rw [q, P2, Q2]
      omega
    · rw [q, P3, Q3]
      omega
  · rw [show ((b + 2).toInt - (a + 1).toInt).toNat = (b.toInt - a.toInt).toNat - 1 + 1 + 1 by omega, zSg_snoc, zSg_snoc, show (a + 1).toInt.toNat = a.toInt.toNat + 1 by omega]
    rw [show a.toInt.toNat + 1 + ((b.toInt - a.toInt).toNat - 1) = b.toInt.toNat by omega, show a.toInt.toNat + 1 + ((b.toInt - a.toInt).toNat - 1 + 1) = b.toInt.toNat + 1 by omega, Q2, Q3]
    rw [zSg_congr Q Q' ((b.toInt - a.toInt).toNat - 1) (a.toInt.toNat + 1) (fun j q1 q2 => Q1 j (by omega))]
    omega
theorem zHv_one {n : Int32} {P Q : Nat → Int32} (h1 : 1 ≤ n) (h2 : n ≤ 14) : zHv n 0 1 (upd P (0 : Int32).toNatClampNeg 0) (upd Q (0 : Int32).toNatClampNeg n) := by
  have k1 := Int32.le_iff_toInt_le.mp h1
  have k2 := Int32.le_iff_toInt_le.mp h2
  rw [zi_1] at k1
  rw [show (14 : Int32).toInt = 14 by decide +kernel] at k2
  have e0 : (0 : Int32).toNatClampNeg = 0 := by decide +kernel
  rw [e0]
  refine ⟨by rw [zi_0]; omega, by rw [zi_0, zi_1]; omega, by rw [zi_1]; omega, k2, fun j q1 q2 => ?_, ?_⟩
  · rw [zi_1] at q2
    have : j = 0 := by omega
    subst this
    rw [zu_at, if_pos rfl, zu_at, if_pos rfl, zi_0]
    omega
  · rw [zi_0, zi_1, show ((0 : Int)).toNat = 0 from rfl, show ((1 : Int) - 0).toNat = 0 + 1 from rfl, zSg_snoc]
    simp only [zSg]
    rw [show (0 : Nat) + 0 = 0 from rfl, zu_at, if_pos rfl]
    omega
theorem zHv_none {n : Int32} {P Q : Nat → Int32} (h2 : n ≤ 14) : zHv n 0 0 P Q := by
  have k2 := Int32.le_iff_toInt_le.mp h2
  rw [show (14 : Int32).toInt = 14 by decide +kernel] at k2
  refine ⟨by rw [zi_0]; omega, by rw [zi_0]; omega, by rw [zi_0]; omega, k2, fun j q1 q2 => ?_, ?_⟩
  · rw [zi_0] at q2
    omega
  · rw [zi_0]
    simp [zSg]
theorem zand31 (x : Int32) : 0 ≤ x &&& 31 ∧ x &&& 31 ≤ 31 := by
  have h := zo_and31 (x := x) (z := x &&& 31) rfl
  refine ⟨Int32.le_iff_toInt_le.mpr ?_, Int32.le_iff_toInt_le.mpr ?_⟩
  · rw [zi_0]; exact h.1
  · rw [show (31 : Int32).toInt = 31 by decide +kernel]; exact h.2
theorem zand255 (x : Int32) : 0 ≤ x &&& 255 ∧ x &&& 255 ≤ 255 := by
  have h := zo_and255 (x := x) (z := x &&& 255) rfl
  refine ⟨Int32.le_iff_toInt_le.mpr ?_, Int32.le_iff_toInt_le.mpr ?_⟩
  · rw [zi_0]; exact h.1
  · rw [show (255 : Int32).toInt = 255 by decide +kernel]; exact h.2
theorem zhalf2 (x : Int32) (h : 0 ≤ x) (h2 : x ≤ 100000000) : 0 ≤ x / 2 ∧ x / 2 ≤ x ∧ x / 2 + x / 2 ≤ x ∧ x ≤ x / 2 + x / 2 + 1 := by
  obtain ⟨a, b, c⟩ := zhalf x h
  refine ⟨a, b, c, ?_⟩
  have h1 := Int32.le_iff_toInt_le.mp h
  rw [zi_0] at h1
  have h3 := Int32.le_iff_toInt_le.mp h2
  rw [show (100000000 : Int32).toInt = 100000000 by decide +kernel] at h3
  have k2 : (2 : Int32).toInt = 2 := by decide +kernel
  have e1 := zo_idiv (x := x) (y := 2) (z := x / 2) rfl rfl k2 ⟨h1, by omega⟩
  have e2 := zo_add (x := x / 2) (y := x / 2) rfl e1 e1 (by omega)
  have e3 := zo_add (x := x / 2 + x / 2) (y := 1) rfl e2 zi_1' (by omega)
  apply Int32.le_iff_toInt_le.mpr
  rw [e3]
  omega
/-! a loop that halves -/
noncomputable def zbl (n : Nat) : Nat := if n = 0 then 0 else Nat.log2 n + 1
theorem zbl_lt {a b : Nat} (h : 2 * a ≤ b) (hb : 1 ≤ b) : zbl a < zbl b := by
  unfold zbl
  rw [if_neg (show ¬ b = 0 by omega)]
  by_cases c : a = 0
  · rw [if_pos c]; omega
  · rw [if_neg c]
    have h1 := Nat.log2_self_le c
    have h2 : 2 ^ (a.log2 + 1) ≤ b := by
      rw [Nat.pow_succ]
      omega
    have h3 := (Nat.le_log2 (show b ≠ 0 by omega)).mpr h2
    omega
theorem zbl_le {n : Nat} (h : n ≤ 10000000) : zbl n < 100000 := by
  unfold zbl
  split
  · omega
  · have := (Nat.log2_lt (k := 24) (by assumption)).mpr (show n < 2 ^ 24 by omega)
    omega
theorem zw_zlH {σ ρ : Type} {B : σ → (σ → Option ρ) → Option ρ} {s : σ} {P : ρ → Prop} (I : σ → Prop) (m : σ → Int32) (hI : I s) (hm : ∀ s, I s → 0 ≤ m s ∧ m s ≤ 10000000) (hB : ∀ (s : σ) (back : σ → Option ρ), I s → (∀ t, I t → 1 ≤ m s → m t + m t ≤ m s → zw (back t) P) → zw (B s back) P) : zw (zl B 100000 s) P := by
  have key : ∀ s, I s → 0 ≤ (m s).toInt ∧ (m s).toInt ≤ 10000000 := by
    intro s hs
    have h := hm s hs
    have h1 := Int32.le_iff_toInt_le.mp h.1
    have h2 := Int32.le_iff_toInt_le.mp h.2
    rw [zi_0] at h1
    rw [show (10000000 : Int32).toInt = 10000000 by decide +kernel] at h2
    exact ⟨h1, h2⟩
  refine zw_zl I (fun s => zbl (m s).toInt.toNat) hI ?_ ?_
  · have := key s hI
    exact zbl_le (by omega)
  · intro s back hs hb
    refine hB s back hs (fun t ht h1 h2 => hb t ht ?_)
    have k1 := key s hs
    have k2 := key t ht
    have a1 := Int32.le_iff_toInt_le.mp h1
    have a2 := Int32.le_iff_toInt_le.mp h2
    rw [zi_1'] at a1
    rw [zo_add (x := m t) (y := m t) (z := m t + m t) rfl rfl rfl (by omega)] at a2
    exact zbl_lt (by omega) (by omega)
theorem zdiv25 (x : Int32) (h : 0 ≤ x) (h2 : x < 350) : 0 ≤ x / 25 ∧ x / 25 ≤ 13 ∧ 0 ≤ x - x / 25 * 25 ∧ x - x / 25 * 25 ≤ 24 := by
  have h1 := Int32.le_iff_toInt_le.mp h
  rw [zi_0] at h1
  have h3 := Int32.lt_iff_toInt_lt.mp h2
  rw [show (350 : Int32).toInt = 350 by decide +kernel] at h3
  have k2 : (25 : Int32).toInt = 25 := by decide +kernel
  have e1 := zo_idiv (x := x) (y := 25) (z := x / 25) rfl rfl k2 ⟨h1, by omega⟩
  have e2 := zo_mul (x := x / 25) (y := 25) rfl e1 k2 (by omega)
  have e3 := zo_sub (x := x) (y := x / 25 * 25) rfl rfl e2 (by omega)
  refine ⟨Int32.le_iff_toInt_le.mpr ?_, Int32.le_iff_toInt_le.mpr ?_, Int32.le_iff_toInt_le.mpr ?_, Int32.le_iff_toInt_le.mpr ?_⟩
  · rw [zi_0, e1]; omega
  · rw [e1, show (13 : Int32).toInt = 13 by decide +kernel]; omega
  · rw [zi_0, e3]; omega
  · rw [e3, show (24 : Int32).toInt = 24 by decide +kernel]; omega
theorem zinj' (x y : Int32) (hx : 0 ≤ x) (hy : 0 ≤ y) : (x.toNatClampNeg = y.toNatClampNeg) = (x = y) := propext ⟨zinj x y hx hy, fun h => by rw [h]⟩
/-! rows with one place changed -/
theorem zU1 {f : Nat → Int32} {k : Nat} {x : Int32} (h : 1 ≤ x) (i : Nat) : upd f k x i = f i ∨ 1 ≤ upd f k x i := by
  rw [zu_at]
  split
  · exact Or.inr h
  · exact Or.inl rfl
theorem zU1m {f : Nat → Int32} {k : Nat} (i : Nat) : upd f k (-1) i = f i ∨ upd f k (-1) i = (-1) := by
  rw [zu_at]
  split
  · exact Or.inr rfl
  · exact Or.inl rfl
theorem zU2 {F S : Nat → Int32} {v o y : Int32} (hF : 0 ≤ F v.toNatClampNeg ∧ F v.toNatClampNeg ≤ 4) (ho : o = 4 + F v.toNatClampNeg) (hy : 1 ≤ y) (x : Int32) (h0 : 0 ≤ x) (h1 : x < upd F v.toNatClampNeg (F v.toNatClampNeg + 1) v.toNatClampNeg) : x < F v.toNatClampNeg ∨ 1 ≤ upd S o.toNatClampNeg y (4 + x).toNatClampNeg := by
  rw [zu_at, if_pos rfl] at h1
  by_cases c : x < F v.toNatClampNeg
  · exact Or.inl c
  · have e : x = F v.toNatClampNeg := by lia
    rw [e, ← ho, zu_at, if_pos rfl]
    exact Or.inr hy
theorem zU3 {S : Nat → Int32} {o y : Int32} (ho : 4 ≤ o) (x : Int32) (h0 : 0 ≤ x) (h1 : x < 4) : upd S o.toNatClampNeg y x.toNatClampNeg = S x.toNatClampNeg := by
  rw [zu_at, if_neg]
  intro q
  have := zinj x o h0 (by lia) q
  lia
theorem zU4 {F : Nat → Int32} {v z : Int32} (hv : v = 1) : upd F v.toNatClampNeg z (0 : Int32).toNatClampNeg = F (0 : Int32).toNatClampNeg := by
  rw [hv, zu_at, if_neg (by decide +kernel)]
theorem zU5 {F G : Nat → Int32} {v : Int32} (hF : 0 ≤ F v.toNatClampNeg ∧ F v.toNatClampNeg ≤ 14) (hG : G (14 + F v.toNatClampNeg).toNatClampNeg = (-1)) (k : Int32) (h0 : 0 ≤ k) (h1 : k < upd F v.toNatClampNeg (F v.toNatClampNeg + 1) v.toNatClampNeg) : k < F v.toNatClampNeg ∨ G (14 + k).toNatClampNeg = (-1) := by
  rw [zu_at, if_pos rfl] at h1
  by_cases c : k < F v.toNatClampNeg
  · exact Or.inl c
  · have e : k = F v.toNatClampNeg := by lia
    rw [e]
    exact Or.inr hG
theorem zU6 {f : Nat → Int32} {o a x : Int32} (h : o = a) : upd f o.toNatClampNeg x a.toNatClampNeg = x := by
  rw [h, zu_at, if_pos rfl]
theorem zU7 {f : Nat → Int32} {k : Nat} {x a b : Int32} (hf : ∀ i : Nat, a ≤ f i ∧ f i ≤ b) (hx : a ≤ x ∧ x ≤ b) (i : Nat) : a ≤ upd f k x i ∧ upd f k x i ≤ b := by
  rw [zu_at]
  split
  · exact hx
  · exact hf i
theorem zU8 {f : Nat → Int32} {k : Nat} {x m : Int32} (h : 0 ≤ x ∧ x < m) (i : Nat) : upd f k x i = f i ∨ 0 ≤ upd f k x i ∧ upd f k x i < m := by
  rw [zu_at]
  split
  · exact Or.inr h
  · exact Or.inl rfl
theorem zO1 {P Q R : Nat → Prop} (h : ∀ i, P i ∨ Q i) (i : Nat) : P i ∨ Q i ∨ R i := (h i).elim Or.inl (fun q => Or.inr (Or.inl q))
theorem zO2 {P Q R : Nat → Prop} (h : ∀ i, P i ∨ R i) (i : Nat) : P i ∨ Q i ∨ R i := (h i).elim Or.inl (fun q => Or.inr (Or.inr q))
theorem zmin13 {a b : Int32} {r : Int64} (ha : 0 ≤ a ∧ a ≤ 13) (hb : 0 ≤ b ∧ b ≤ 13) (h : (b.toInt64 ≤ r ∧ r ≤ b.toInt64 ∧ b.toInt64 ≤ a.toInt64) ∨ (a.toInt64 ≤ r ∧ r ≤ a.toInt64 ∧ a.toInt64 < b.toInt64)) : 0 ≤ r.toInt32 ∧ r.toInt32 ≤ 13 := by
  rcases h with ⟨h1, h2, _⟩ | ⟨h1, h2, _⟩
  · rw [Int64.le_antisymm h2 h1, z64_32]; exact hb
  · rw [Int64.le_antisymm h2 h1, z64_32]; exact ha
theorem z64_ge0 (x : Int32) : (0 : Int64) ≤ x.toInt64 ↔ 0 ≤ x := by
  rw [Int64.le_iff_toInt_le, z64_i, Int32.le_iff_toInt_le, zi_0]
  exact Iff.rfl
theorem z64_ltm (x y : Int32) (hy : 0 ≤ y) : x.toInt64 ≤ y.toInt64 - 1 ↔ x < y := by
  have h1 := Int32.le_iff_toInt_le.mp hy
  rw [zi_0] at h1
  have h2 := Int32.toInt_lt y
  rw [Int64.le_iff_toInt_le, Int64.toInt_sub, z64_i, z64_i, show (1 : Int64).toInt = 1 by decide +kernel, Int32.lt_iff_toInt_lt, Int.bmod_def]
  constructor
  · intro h
    split at h <;> omega
  · intro h
    split <;> omega
/-! a row copied from its second half to its first -/
theorem zC1 {S T : Nat → Int32} {d c : Int32} (hd : 0 ≤ d ∧ d ≤ 14) (hc : 0 ≤ c) (hc2 : c < d) (h1 : ∀ x : Int32, 0 ≤ x → x < c → S x.toNatClampNeg = T (d + x).toNatClampNeg) (h2 : ∀ x : Int32, d ≤ x → S x.toNatClampNeg = T x.toNatClampNeg) (x : Int32) (x0 : 0 ≤ x) (x1 : x < c + 1) : upd S c.toNatClampNeg (S (d + c).toNatClampNeg) x.toNatClampNeg = T (d + x).toNatClampNeg := by
  rw [zu_at]
  by_cases q : x = c
  · rw [if_pos (by rw [q]), h2 _ (by lia), q]
  · rw [if_neg (fun w => q (zinj x c x0 hc w)), h1 x x0 (by lia)]
theorem zC2 {S T : Nat → Int32} {d c : Int32} (hd : 0 ≤ d ∧ d ≤ 14) (hc : 0 ≤ c) (hc2 : c < d) (h2 : ∀ x : Int32, d ≤ x → S x.toNatClampNeg = T x.toNatClampNeg) (x : Int32) (x0 : d ≤ x) : upd S c.toNatClampNeg (S (d + c).toNatClampNeg) x.toNatClampNeg = T x.toNatClampNeg := by
  rw [zu_at, if_neg (fun w => by have := zinj x c (by lia) hc w; lia)]
  exact h2 x x0
theorem zC3 {S T : Nat → Int32} {c : Int32} (hc : 4 ≤ c) (h1 : ∀ x : Int32, 0 ≤ x → x < c → S x.toNatClampNeg = T (4 + x).toNatClampNeg) (h2 : ∀ x : Int32, 4 ≤ x → S x.toNatClampNeg = T x.toNatClampNeg) (x : Int32) (x0 : 0 ≤ x) (x1 : x < 4) : S x.toNatClampNeg = T (4 + x).toNatClampNeg ∧ S (4 + x).toNatClampNeg = T (4 + x).toNatClampNeg := ⟨h1 x x0 (by lia), h2 _ (by lia)⟩
theorem zC4 {S T : Nat → Int32} {c : Int32} (hc : 14 ≤ c) (h1 : ∀ x : Int32, 0 ≤ x → x < c → S x.toNatClampNeg = T (14 + x).toNatClampNeg) (x : Int32) (x0 : 0 ≤ x) (x1 : x < 14) : S x.toNatClampNeg = T (14 + x).toNatClampNeg := h1 x x0 (by lia)
theorem zTk3 {A B N X H H0 SF SS SN SX : Nat → Int32} (hA : A (0 : Int32).toNatClampNeg = SF (1 : Int32).toNatClampNeg) (hSF : ∀ i : Nat, 0 ≤ SF i ∧ SF i ≤ 4) (hB : ∀ x : Int32, 0 ≤ x → x < 4 → B x.toNatClampNeg = SS (4 + x).toNatClampNeg ∧ B (4 + x).toNatClampNeg = SS (4 + x).toNatClampNeg) (hS : ∀ x : Int32, 0 ≤ x → x < SF (1 : Int32).toNatClampNeg → 1 ≤ SS (4 + x).toNatClampNeg) (hN : N (0 : Int32).toNatClampNeg = SN (1 : Int32).toNatClampNeg) (hSN : ∀ i : Nat, 0 ≤ SN i ∧ SN i ≤ 14)
    (hX : ∀ k : Int32, 0 ≤ k → k < 14 → X k.toNatClampNeg = SX (14 + k).toNatClampNeg) (hSX : ∀ k : Int32, 0 ≤ k → k < SN (1 : Int32).toNatClampNeg → SX (14 + k).toNatClampNeg = (-1) ∨ 0 ≤ SX (14 + k).toNatClampNeg ∧ 1 ≤ SS (4 + SX (14 + k).toNatClampNeg).toNatClampNeg) (hSXr : ∀ i : Nat, (-1) ≤ SX i ∧ SX i ≤ 3) (hH : ∀ i : Nat, H i = H0 i ∨ H i = 0 ∨ ∃ k : Int32, 0 ≤ k ∧ k < N (0 : Int32).toNatClampNeg ∧ ¬ X k.toNatClampNeg = (-1) ∧ H i = X k.toNatClampNeg) (hA1 : 1 ≤ SF (1 : Int32).toNatClampNeg) :
    1 ≤ A (0 : Int32).toNatClampNeg ∧ (∀ x : Int32, 0 ≤ x → x < A (0 : Int32).toNatClampNeg → 1 ≤ B x.toNatClampNeg) ∧ (∀ i : Nat, H i = H0 i ∨ 1 ≤ B (H i).toNatClampNeg) := by
  have h4 := hSF (1 : Int32).toNatClampNeg
  have h14 := hSN (1 : Int32).toNatClampNeg
  have hx : ∀ x : Int32, 0 ≤ x → x < A (0 : Int32).toNatClampNeg → 1 ≤ B x.toNatClampNeg := by
    intro x x0 x1
    rw [hA] at x1
    rw [(hB x x0 (by lia)).1]
    exact hS x x0 x1
  refine ⟨by rw [hA]; exact hA1, hx, fun i => ?_⟩
  rcases hH i with q | q | ⟨k, k0, k1, k2, k3⟩
  · exact Or.inl q
  · rw [q]
    exact Or.inr (hx 0 (by decide) (by rw [hA]; lia))
  · rw [hN] at k1
    have e := hX k k0 (by lia)
    rw [e] at k2 k3
    rw [k3]
    have r := hSXr (14 + k).toNatClampNeg
    rcases hSX k k0 k1 with w | ⟨w0, w1⟩
    · exact absurd w k2
    · rw [(hB _ w0 (by lia)).1]
      exact Or.inr w1
theorem z64_r (x : Int32) (h : 1 ≤ x) : 1 ≤ x.toInt64 ∧ x.toInt64 ≤ 2147483647 := by
  have h1 := Int32.le_iff_toInt_le.mp h
  rw [zi_1'] at h1
  have h2 := Int32.toInt_lt x
  refine ⟨Int64.le_iff_toInt_le.mpr ?_, Int64.le_iff_toInt_le.mpr ?_⟩
  · rw [z64_i, show (1 : Int64).toInt = 1 by decide +kernel]; exact h1
  · rw [z64_i, show (2147483647 : Int64).toInt = 2147483647 by decide +kernel]; omega
theorem zdivm (x y : Int32) (h0 : 0 ≤ x) (h1 : x ≤ 1023) (h2 : 1 ≤ y) (h3 : y ≤ 4) : 0 ≤ x / y ∧ x / y ≤ x ∧ 0 ≤ x - x / y * y ∧ x - x / y * y < y := by
  have a0 := Int32.le_iff_toInt_le.mp h0
  have a1 := Int32.le_iff_toInt_le.mp h1
  have a2 := Int32.le_iff_toInt_le.mp h2
  have a3 := Int32.le_iff_toInt_le.mp h3
  rw [zi_0] at a0
  rw [show (1023 : Int32).toInt = 1023 by decide +kernel] at a1
  rw [zi_1'] at a2
  rw [show (4 : Int32).toInt = 4 by decide +kernel] at a3
  have e1 := zo_idiv (x := x) (y := y) (z := x / y) rfl rfl rfl ⟨a0, by omega⟩
  have d1 : 0 ≤ x.toInt / y.toInt := Int.ediv_nonneg a0 (by omega)
  have d2 : x.toInt / y.toInt * y.toInt ≤ x.toInt := Int.ediv_mul_le _ (by omega)
  have d3 : x.toInt < x.toInt / y.toInt * y.toInt + y.toInt := by
    have := Int.lt_ediv_add_one_mul_self x.toInt (show 0 < y.toInt by omega)
    rw [Int.add_mul, Int.one_mul] at this
    exact this
  have d4 : x.toInt / y.toInt ≤ x.toInt := Int.ediv_le_self _ a0
  have d5 : 0 ≤ x.toInt / y.toInt * y.toInt := Int.mul_nonneg d1 (by omega)
  have e2 := zo_mul (x := x / y) (y := y) (z := x / y * y) rfl e1 rfl (by omega)
  have e3 := zo_sub (x := x) (y := x / y * y) (z := x - x / y * y) rfl rfl e2 (by omega)
  refine ⟨Int32.le_iff_toInt_le.mpr ?_, Int32.le_iff_toInt_le.mpr ?_, Int32.le_iff_toInt_le.mpr ?_, Int32.lt_iff_toInt_lt.mpr ?_⟩
  · rw [zi_0, e1]; exact d1
  · rw [e1]; exact d4
  · rw [zi_0, e3]; omega
  · rw [e3]; omega
theorem zStR {R G St : Nat → Int32} {m : Int32} (h1 : ∀ x : Int32, 0 ≤ x → x < m → 1 ≤ St x.toNatClampNeg) (h2 : ∀ i : Nat, 1 ≤ St (G i).toNatClampNeg) (h : ∀ i : Nat, R i = G i ∨ 0 ≤ R i ∧ R i < m) (i : Nat) : 1 ≤ St (R i).toNatClampNeg := by
  rcases h i with q | q
  · rw [q]; exact h2 i
  · exact h1 _ q.1 q.2
