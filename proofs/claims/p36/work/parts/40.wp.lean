/-! what a function's answer keeps: it is there, and P holds of it -/
def zw {ρ : Type} (e : Option ρ) (P : ρ → Prop) : Prop := ∃ r, e = some r ∧ P r
theorem zw_some {ρ : Type} {r : ρ} {P : ρ → Prop} (h : P r) : zw (some r) P := ⟨r, rfl, h⟩
theorem zw_mono {ρ : Type} {e : Option ρ} {P Q : ρ → Prop} (h : zw e P) (hq : ∀ r, P r → Q r) : zw e Q := by
  obtain ⟨r, e1, e2⟩ := h
  exact ⟨r, e1, hq r e2⟩
theorem zw_if {ρ : Type} {c : Prop} [Decidable c] {a b : Option ρ} {P : ρ → Prop} (h1 : c → zw a P) (h2 : ¬ c → zw b P) : zw (if c then a else b) P := by
  by_cases h : c
  · rw [if_pos h]; exact h1 h
  · rw [if_neg h]; exact h2 h
theorem zw_zb {α ρ : Type} {o : Option α} {k : α → Option ρ} {P : ρ → Prop} {P' : α → Prop} (h : zw o P') (h2 : ∀ a, o = some a → P' a → zw (k a) P) : zw (zb o k) P := by
  obtain ⟨r, e1, e2⟩ := h
  subst e1
  exact h2 r rfl e2
theorem zw_zg {ρ : Type} {i : Int32} {n : Nat} {e : Option ρ} {P : ρ → Prop} (h : 0 ≤ i.toInt ∧ i.toInt < (n : Int)) (h2 : zw e P) : zw (zg i n e) P := by
  unfold zg
  rw [if_pos h]; exact h2
theorem zw_zd {α ρ : Type} [DecidableEq α] [OfNat α 0] {y : α} {e : Option ρ} {P : ρ → Prop} (h : ¬ y = 0) (h2 : zw e P) : zw (zd y e) P := by
  unfold zd
  rw [if_neg h]; exact h2
theorem zw_zt {ρ : Type} {v : Int32} {e : Option ρ} {P : ρ → Prop} (h : v = 0 ∨ v = 1) (h2 : zw e P) : zw (zt v e) P := by
  unfold zt
  have : v &&& 1 = v := by
    rcases h with h | h <;> (subst h; rfl)
  rw [if_pos this]; exact h2
theorem zw_za {ρ : Type} {n : Int32} {top : Nat} {e : Option ρ} {P : ρ → Prop} (h : 0 ≤ n.toInt ∧ n.toInt ≤ (top : Int)) (h2 : zw e P) : zw (za n top e) P := by
  unfold za
  have : ¬ n < 0 ∧ n.toNatClampNeg ≤ top := by
    refine ⟨fun q => ?_, ?_⟩
    · have := Int32.lt_iff_toInt_lt.mp q
      have e0 : (0 : Int32).toInt = 0 := by decide +kernel
      omega
    · show n.toInt.toNat ≤ top
      omega
  rw [if_pos this]; exact h2
theorem zw_zn {α ρ : Type} {a : α} {k : α → Option ρ} {P : ρ → Prop} (h : ∀ x, x = a → zw (k x) P) : zw (zn a k) P := h a rfl
theorem zw_zj {σ ρ : Type} {j : σ → Option ρ} {k : (σ → Option ρ) → Option ρ} {P : ρ → Prop} (J : σ → Prop) (h1 : ∀ s, J s → zw (j s) P) (h2 : ∀ j' : σ → Option ρ, (∀ s, J s → zw (j' s) P) → zw (k j') P) : zw (zj j k) P := h2 j h1
theorem zw_zl {σ ρ : Type} {B : σ → (σ → Option ρ) → Option ρ} {n : Nat} {s : σ} {P : ρ → Prop} (I : σ → Prop) (μ : σ → Nat) (hI : I s) (hn : μ s < n) (hB : ∀ (s : σ) (back : σ → Option ρ), I s → (∀ t, I t → μ t < μ s → zw (back t) P) → zw (B s back) P) : zw (zl B n s) P := by
  induction n generalizing s with
  | zero => exact absurd hn (Nat.not_lt_zero _)
  | succ n ih => exact hB s (zl B n) hI (fun t ht hm => ih ht (by omega))
theorem zu_at (f : Nat → Int32) (k : Nat) (x : Int32) (j : Nat) : upd f k x j = if j = k then x else f j := rfl
theorem zu_atL (f : Nat → Int64) (k : Nat) (x : Int64) (j : Nat) : vp_updL f k x j = if j = k then x else f j := rfl
theorem zi_0 : (0 : Int32).toInt = 0 := by decide +kernel
theorem zw_zb0 {α ρ : Type} {o : Option α} {k : α → Option ρ} {P : ρ → Prop} {P' : α → Prop} (h : zw o P') (h2 : ∀ a, P' a → zw (k a) P) : zw (zb o k) P := zw_zb h (fun a _ h => h2 a h)
theorem zw_zg32 {ρ : Type} {i : Int32} {n : Nat} {e : Option ρ} {P : ρ → Prop} (c : Int32) (hc : c.toInt = (n : Int)) (h : 0 ≤ i ∧ i < c) (h2 : zw e P) : zw (zg i n e) P := by
  refine zw_zg ⟨?_, ?_⟩ h2
  · have := Int32.le_iff_toInt_le.mp h.1
    rw [zi_0] at this
    exact this
  · rw [← hc]; exact Int32.lt_iff_toInt_lt.mp h.2
theorem zw_za32 {ρ : Type} {i : Int32} {n : Nat} {e : Option ρ} {P : ρ → Prop} (c : Int32) (hc : c.toInt = (n : Int)) (h : 0 ≤ i ∧ i ≤ c) (h2 : zw e P) : zw (za i n e) P := by
  refine zw_za ⟨?_, ?_⟩ h2
  · have := Int32.le_iff_toInt_le.mp h.1
    rw [zi_0] at this
    exact this
  · rw [← hc]; exact Int32.le_iff_toInt_le.mp h.2
theorem zw_zgN {ρ : Type} {i : Int32} {n : Nat} {e : Option ρ} {P : ρ → Prop} (hn : n ≤ 100000) (h : 0 ≤ i ∧ i < Int32.ofNat n) (h2 : zw e P) : zw (zg i n e) P := by
  have h1 := Int32.le_iff_toInt_le.mp h.1
  rw [zi_0] at h1
  have h3 := Int32.lt_iff_toInt_lt.mp h.2
  rw [Int32.toInt_ofNat_of_lt (by omega)] at h3
  exact zw_zg ⟨h1, h3⟩ h2
theorem zofn (p : Int32) (h : 0 ≤ p) : Int32.ofNat p.toNatClampNeg = p ∧ (p.toNatClampNeg : Int) = p.toInt := by
  have h1 := Int32.le_iff_toInt_le.mp h
  rw [zi_0] at h1
  have h2 := Int32.toInt_lt p
  have h3 : (p.toNatClampNeg : Int) = p.toInt := by
    show ((p.toInt.toNat : Nat) : Int) = _
    omega
  refine ⟨Int32.toInt_inj.mp ?_, h3⟩
  rw [Int32.toInt_ofNat_of_lt (by omega), h3]
theorem z64_32 (x : Int32) : x.toInt64.toInt32 = x := by
  apply Int32.toInt_inj.mp
  simp
theorem z64_i (x : Int32) : x.toInt64.toInt = x.toInt := by simp
theorem z64_le (x y : Int32) : x.toInt64 ≤ y.toInt64 ↔ x ≤ y := by
  rw [Int64.le_iff_toInt_le, Int32.le_iff_toInt_le, z64_i, z64_i]
theorem z64_0 (x : Int32) : x.toInt64 = 0 ↔ x = 0 := by
  rw [← Int64.toInt_inj, ← Int32.toInt_inj, z64_i]
  rfl
theorem zhalf (x : Int32) (h : 0 ≤ x) : 0 ≤ x / 2 ∧ x / 2 + x / 2 ≤ x := by
  have h1 := Int32.le_iff_toInt_le.mp h
  rw [zi_0] at h1
  have k2 : (2 : Int32).toInt = 2 := by decide +kernel
  have h2 := zo_idiv (x := x) (y := 2) (z := x / 2) rfl rfl k2 ⟨h1, by omega⟩
  have h3 := Int32.toInt_lt x
  have h4 := zo_add (x := x / 2) (y := x / 2) rfl h2 h2 (by omega)
  refine ⟨Int32.le_iff_toInt_le.mpr ?_, Int32.le_iff_toInt_le.mpr ?_⟩
  · rw [h2, zi_0]; omega
  · rw [h4]; omega
theorem zw_zl32 {σ ρ : Type} {B : σ → (σ → Option ρ) → Option ρ} {s : σ} {P : ρ → Prop} (I : σ → Prop) (m : σ → Int32) (hI : I s) (hn : m s < 100000) (hB : ∀ (s : σ) (back : σ → Option ρ), I s → (∀ t, I t → 0 ≤ m t → m t < m s → zw (back t) P) → zw (B s back) P) : zw (zl B 100000 s) P := by
  refine zw_zl I (fun s => (m s).toInt.toNat) hI ?_ ?_
  · have h1 := Int32.lt_iff_toInt_lt.mp hn
    have h2 : (100000 : Int32).toInt = 100000 := by decide +kernel
    rw [h2] at h1
    show (m s).toInt.toNat < 100000
    omega
  · intro s back hI hb
    refine hB s back hI (fun t ht h0 h1 => hb t ht ?_)
    have h2 := Int32.le_iff_toInt_le.mp h0
    have h3 := Int32.lt_iff_toInt_lt.mp h1
    rw [zi_0] at h2
    show (m t).toInt.toNat < (m s).toInt.toNat
    omega
theorem zmulc {a b : Int32} {A B : Int} (ha : 0 ≤ a.toInt ∧ a.toInt ≤ A) (hb : 0 ≤ b.toInt ∧ b.toInt ≤ B) (hAB : A * B < 2147483648) : 0 ≤ (a * b).toInt ∧ (a * b).toInt ≤ A * B ∧ (a * b).toInt = a.toInt * b.toInt := by
  have h1 : a.toInt * b.toInt ≤ A * B := Int.mul_le_mul ha.2 hb.2 hb.1 (by omega)
  have h2 : 0 ≤ a.toInt * b.toInt := Int.mul_nonneg ha.1 hb.1
  have h3 := zo_mul (x := a) (y := b) (z := a * b) rfl rfl rfl ⟨by omega, by omega⟩
  rw [h3]
  exact ⟨h2, h1, rfl⟩
theorem zmul4 (a b : Int32) (h1 : 0 ≤ a) (h2 : a ≤ 1024) (h3 : 0 ≤ b) (h4 : b ≤ 4) : 0 ≤ a * b ∧ a * b ≤ 4 * a := by
  have k1 := Int32.le_iff_toInt_le.mp h1
  have k2 := Int32.le_iff_toInt_le.mp h2
  have k3 := Int32.le_iff_toInt_le.mp h3
  have k4 := Int32.le_iff_toInt_le.mp h4
  rw [zi_0] at k1 k3
  rw [show (1024 : Int32).toInt = 1024 by decide +kernel] at k2
  rw [show (4 : Int32).toInt = 4 by decide +kernel] at k4
  have h := zmulc (a := a) (b := b) ⟨k1, k2⟩ ⟨k3, k4⟩ (by omega)
  have h5 := zo_mul (x := 4) (y := a) (z := 4 * a) rfl (show (4 : Int32).toInt = 4 by decide +kernel) rfl (by omega)
  have h6 : a.toInt * b.toInt ≤ a.toInt * 4 := Int.mul_le_mul_of_nonneg_left k4 k1
  refine ⟨Int32.le_iff_toInt_le.mpr ?_, Int32.le_iff_toInt_le.mpr ?_⟩
  · rw [zi_0]; exact h.1
  · rw [h.2.2, h5]; omega
theorem zmul14 (a b : Int32) (h1 : 0 ≤ a) (h2 : a ≤ 1024) (h3 : 0 ≤ b) (h4 : b ≤ 14) : 0 ≤ a * b ∧ a * b ≤ 14336 := by
  have k1 := Int32.le_iff_toInt_le.mp h1
  have k2 := Int32.le_iff_toInt_le.mp h2
  have k3 := Int32.le_iff_toInt_le.mp h3
  have k4 := Int32.le_iff_toInt_le.mp h4
  rw [zi_0] at k1 k3
  rw [show (1024 : Int32).toInt = 1024 by decide +kernel] at k2
  rw [show (14 : Int32).toInt = 14 by decide +kernel] at k4
  have h := zmulc (a := a) (b := b) ⟨k1, k2⟩ ⟨k3, k4⟩ (by omega)
  refine ⟨Int32.le_iff_toInt_le.mpr ?_, Int32.le_iff_toInt_le.mpr ?_⟩
  · rw [zi_0]; exact h.1
  · rw [show (14336 : Int32).toInt = 14336 by decide +kernel]; omega
