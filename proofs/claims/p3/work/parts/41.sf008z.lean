theorem zand31 (x : Int32) : 0 ≤ x &&& 31 ∧ x &&& 31 ≤ 31 := by
  have h := zo_and31 (x := x) (z := x &&& 31) rfl
  refine ⟨Int32.le_iff_toInt_le.mpr ?_, Int32.le_iff_toInt_le.mpr ?_⟩
  · rw [zi_0]; exact h.1
  · rw [show (31 : Int32).toInt = 31 by decide +kernel]; exact h.2
theorem zand255 (x : Int32) : 0 ≤ x &&& 255 ∧ x &&& 255 ≤ 255 := by
  have h := zo_and255 (x := x) (z := x &&& 255) rfl
  refine ⟨Int32.le_iff_toInt_le.mpr ?_, Int32.le_iff_toInt_le.mpr ?_⟩
  · rw [zi_0]; exact h.1
  · rw [show (255 : Int32).toInt = 255 by decide +kernel]; exact h.2
theorem zhalf2 (x : Int32) (h : 0 ≤ x) (h2 : x ≤ 100000000) : 0 ≤ x / 2 ∧ x / 2 ≤ x ∧ x / 2 + x / 2 ≤ x ∧ x ≤ x / 2 + x / 2 + 1 := by
  obtain ⟨a, b, c⟩ := zhalf x h
  refine ⟨a, b, c, ?_⟩
  have h1 := Int32.le_iff_toInt_le.mp h
  rw [zi_0] at h1
  have h3 := Int32.le_iff_toInt_le.mp h2
  rw [show (100000000 : Int32).toInt = 100000000 by decide +kernel] at h3
  have k2 : (2 : Int32).toInt = 2 := by decide +kernel
  have e1 := zo_idiv (x := x) (y := 2) (z := x / 2) rfl rfl k2 ⟨h1, by omega⟩
  have e2 := zo_add (x := x / 2) (y := x / 2) rfl e1 e1 (by omega)
  have e3 := zo_add (x := x / 2 + x / 2) (y := 1) rfl e2 zi_1' (by omega)
  apply Int32.le_iff_toInt_le.mpr
  rw [e3]
  omega
/-! a loop that halves -/
def zbl (n : Nat) : Nat := if n = 0 then 0 else Nat.log2 n + 1
theorem zbl_lt {a b : Nat} (h : 2 * a ≤ b) (hb : 1 ≤ b) : zbl a < zbl b := by
  unfold zbl
  rw [if_neg (show ¬ b = 0 by omega)]
  by_cases c : a = 0
  · rw [if_pos c]; omega
  · rw [if_neg c]
    have h1 := Nat.log2_self_le c
    have h2 : 2 ^ (a.log2 + 1) ≤ b := by
      rw [Nat.pow_succ]
      omega
    have h3 := (Nat.le_log2 (show b ≠ 0 by omega)).mpr h2
    omega
theorem zbl_le {n : Nat} (h : n ≤ 10000000) : zbl n < 100000 := by
  unfold zbl
  split
  · omega
  · have := (Nat.log2_lt (k := 24) (by assumption)).mpr (show n < 2 ^ 24 by omega)
    omega
theorem zw_zlH {σ ρ : Type} {B : σ → (σ → Option ρ) → Option ρ} {s : σ} {P : ρ → Prop} (I : σ → Prop) (m : σ → Int32) (hI : I s) (hm : ∀ s, I s → 0 ≤ m s ∧ m s ≤ 10000000) (hB : ∀ (s : σ) (back : σ → Option ρ), I s → (∀ t, I t → 1 ≤ m s → m t + m t ≤ m s → zw (back t) P) → zw (B s back) P) : zw (zl B 100000 s) P := by
  have key : ∀ s, I s → 0 ≤ (m s).toInt ∧ (m s).toInt ≤ 10000000 := by
    intro s hs
    have h := hm s hs
    have h1 := Int32.le_iff_toInt_le.mp h.1
    have h2 := Int32.le_iff_toInt_le.mp h.2
    rw [zi_0] at h1
    rw [show (10000000 : Int32).toInt = 10000000 by decide +kernel] at h2
    exact ⟨h1, h2⟩
  refine zw_zl I (fun s => zbl (m s).toInt.toNat) hI ?_ ?_
  · have := key s hI
    exact zbl_le (by omega)
  · intro s back hs hb
    refine hB s back hs (fun t ht h1 h2 => hb t ht ?_)
    have k1 := key s hs
    have k2 := key t ht
    have a1 := Int32.le_iff_toInt_le.mp h1
    have a2 := Int32.le_iff_toInt_le.mp h2
    rw [zi_1'] at a1
    rw [zo_add (x := m t) (y := m t) (z := m t + m t) rfl rfl rfl (by omega)] at a2
    exact zbl_lt (by omega) (by omega)
theorem zdiv25 (x : Int32) (h : 0 ≤ x) (h2 : x < 350) : 0 ≤ x / 25 ∧ x / 25 ≤ 13 ∧ 0 ≤ x - x / 25 * 25 ∧ x - x / 25 * 25 ≤ 24 := by
  have h1 := Int32.le_iff_toInt_le.mp h
  rw [zi_0] at h1
  have h3 := Int32.lt_iff_toInt_lt.mp h2
  rw [show (350 : Int32).toInt = 350 by decide +kernel] at h3
  have k2 : (25 : Int32).toInt = 25 := by decide +kernel
  have e1 := zo_idiv (x := x) (y := 25) (z := x / 25) rfl rfl k2 ⟨h1, by omega⟩
  have e2 := zo_mul (x := x / 25) (y := 25) rfl e1 k2 (by omega)
  have e3 := zo_sub (x := x) (y := x / 25 * 25) rfl rfl e2 (by omega)
  refine ⟨Int32.le_iff_toInt_le.mpr ?_, Int32.le_iff_toInt_le.mpr ?_, Int32.le_iff_toInt_le.mpr ?_, Int32.le_iff_toInt_le.mpr ?_⟩
  · rw [zi_0, e1]; omega
  · rw [e1, show (13 : Int32).toInt = 13 by decide +kernel]; omega
  · rw [zi_0, e3]; omega
  · rw [e3, show (24 : Int32).toInt = 24 by decide +kernel]; omega
theorem zinj' (x y : Int32) (hx : 0 ≤ x) (hy : 0 ≤ y) : (x.toNatClampNeg = y.toNatClampNeg) = (x = y) := propext ⟨zinj x y hx hy, fun h => by rw [h]⟩
