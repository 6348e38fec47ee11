theorem zand31 (x : Int32) : 0 ≤ x &&& 31 ∧ x &&& 31 ≤ 31 := by
  have h := zo_and31 (x := x) (z := x &&& 31) rfl
  refine ⟨Int32.le_iff_toInt_le.mpr ?_, Int32.le_iff_toInt_le.mpr ?_⟩
  · rw [zi_0]; exact h.1
  · rw [show (31 : Int32).toInt = 31 by decide +kernel]; exact h.2
theorem zand255 (x : Int32) : 0 ≤ x &&& 255 ∧ x &&& 255 ≤ 255 := by
  have h := zo_and255 (x := x) (z := x &&& 255) rfl
  refine ⟨Int32.le_iff_toInt_le.mpr ?_, Int32.le_iff_toInt_le.mpr ?_⟩
  · rw [zi_0]; exact h.1
  · rw [show (255 : Int32).toInt = 255 by decide +kernel]; exact h.2
theorem zhalf2 (x : Int32) (h : 0 ≤ x) (h2 : x ≤ 100000000) : 0 ≤ x / 2 ∧ x / 2 ≤ x ∧ x / 2 + x / 2 ≤ x ∧ x ≤ x / 2 + x / 2 + 1 := by
  obtain ⟨a, b, c⟩ := zhalf x h
  refine ⟨a, b, c, ?_⟩
  have h1 := Int32.le_iff_toInt_le.mp h
  rw [zi_0] at h1
  have h3 := Int32.le_iff_toInt_le.mp h2
  rw [show (100000000 : Int32).toInt = 100000000 by decide +kernel] at h3
  have k2 : (2 : Int32).toInt = 2 := by decide +kernel
  have e1 := zo_idiv (x := x) (y := 2) (z := x / 2) rfl rfl k2 ⟨h1, by omega⟩
  have e2 := zo_add (x := x / 2) (y := x / 2) rfl e1 e1 (by omega)
  have e3 := zo_add (x := x / 2 + x / 2) (y := 1) rfl e2 zi_1' (by omega)
  apply Int32.le_iff_toInt_le.mpr
  rw [e3]
  omega
/-! a loop that halves -/
noncomputable def zbl (n : Nat) : Nat := if n = 0 then 0 else Nat.log2 n + 1
theorem zbl_lt {a b : Nat} (h : 2 * a ≤ b) (hb : 1 ≤ b) : zbl a < zbl b := by
  unfold zbl
  rw [if_neg (show ¬ b = 0 by omega)]
  by_cases c : a = 0
  · rw [if_pos c]; omega
  · rw [if_neg c]
    have h1 := Nat.log2_self_le c
    have h2 : 2 ^ (a.log2 + 1) ≤ b := by
      rw [Nat.pow_succ]
      omega
    have h3 := (Nat.le_log2 (show b ≠ 0 by omega)).mpr h2
    omega
theorem zbl_le {n : Nat} (h : n ≤ 10000000) : zbl n < 100000 := by
  unfold zbl
  split
  · omega
  · have := (Nat.log2_lt (k := 24) (by assumption)).mpr (show n < 2 ^ 24 by omega)
    omega
theorem zw_zlH {σ ρ : Type} {B : σ → (σ → Option ρ) → Option ρ} {s : σ} {P : ρ → Prop} (I : σ → Prop) (m : σ → Int32) (hI : I s) (hm : ∀ s, I s → 0 ≤ m s ∧ m s ≤ 10000000) (hB : ∀ (s : σ) (back : σ → Option ρ), I s → (∀ t, I t → 1 ≤ m s → m t + m t ≤ m s → zw (back t) P) → zw (B s back) P) : zw (zl B 100000 s) P := by
  have key : ∀ s, I s → 0 ≤ (m s).toInt ∧ (m s).toInt ≤ 10000000 := by
    intro s hs
    have h := hm s hs
    have h1 := Int32.le_iff_toInt_le.mp h.1
    have h2 := Int32.le_iff_toInt_le.mp h.2
    rw [zi_0] at h1
    rw [show (10000000 : Int32).toInt = 10000000 by decide +kernel] at h2
    exact ⟨h1, h2⟩
  refine zw_zl I (fun s => zbl (m s).toInt.toNat) hI ?_ ?_
  · have := key s hI
    exact zbl_le (by omega)
  · intro s back hs hb
    refine hB s back hs (fun t ht h1 h2 => hb t ht ?_)
    have k1 := key s hs
    have k2 := key t ht
    have a1 := Int32.le_iff_toInt_le.mp h1
    have a2 := Int32.le_iff_toInt_le.mp h2
    rw [zi_1'] at a1
    rw [zo_add (x := m t) (y := m t) (z := m t + m t) rfl rfl rfl (by omega)] at a2
    exact zbl_lt (by omega) (by omega)
theorem zdiv25 (x : Int32) (h : 0 ≤ x) (h2 : x < 350) : 0 ≤ x / 25 ∧ x / 25 ≤ 13 ∧ 0 ≤ x - x / 25 * 25 ∧ x - x / 25 * 25 ≤ 24 := by
  have h1 := Int32.le_iff_toInt_le.mp h
  rw [zi_0] at h1
  have h3 := Int32.lt_iff_toInt_lt.mp h2
  rw [show (350 : Int32).toInt = 350 by decide +kernel] at h3
  have k2 : (25 : Int32).toInt = 25 := by decide +kernel
  have e1 := zo_idiv (x := x) (y := 25) (z := x / 25) rfl rfl k2 ⟨h1, by omega⟩
  have e2 := zo_mul (x := x / 25) (y := 25) rfl e1 k2 (by omega)
  have e3 := zo_sub (x := x) (y := x / 25 * 25) rfl rfl e2 (by omega)
  refine ⟨Int32.le_iff_toInt_le.mpr ?_, Int32.le_iff_toInt_le.mpr ?_, Int32.le_iff_toInt_le.mpr ?_, Int32.le_iff_toInt_le.mpr ?_⟩
  · rw [zi_0, e1]; omega
  · rw [e1, show (13 : Int32).toInt = 13 by decide +kernel]; omega
  · rw [zi_0, e3]; omega
  · rw [e3, show (24 : Int32).toInt = 24 by decide +kernel]; omega
theorem zinj' (x y : Int32) (hx : 0 ≤ x) (hy : 0 ≤ y) : (x.toNatClampNeg = y.toNatClampNeg) = (x = y) := propext ⟨zinj x y hx hy, fun h => by rw [h]⟩
/-! rows with one place changed -/
theorem zU1 {f : Nat → Int32} {k : Nat} {x : Int32} (h : 1 ≤ x) (i : Nat) : upd f k x i = f i ∨ 1 ≤ upd f k x i := by
  rw [zu_at]
  split
  · exact Or.inr h
  · exact Or.inl rfl
theorem zU1m {f : Nat → Int32} {k : Nat} (i : Nat) : upd f k (-1) i = f i ∨ upd f k (-1) i = (-1) := by
  rw [zu_at]
  split
  · exact Or.inr rfl
  · exact Or.inl rfl
theorem zU2 {F S : Nat → Int32} {v o y : Int32} (hF : 0 ≤ F v.toNatClampNeg ∧ F v.toNatClampNeg ≤ 4) (ho : o = 4 + F v.toNatClampNeg) (hy : 1 ≤ y) (x : Int32) (h0 : 0 ≤ x) (h1 : x < upd F v.toNatClampNeg (F v.toNatClampNeg + 1) v.toNatClampNeg) : x < F v.toNatClampNeg ∨ 1 ≤ upd S o.toNatClampNeg y (4 + x).toNatClampNeg := by
  rw [zu_at, if_pos rfl] at h1
  by_cases c : x < F v.toNatClampNeg
  · exact Or.inl c
  · have e : x = F v.toNatClampNeg := by lia
    rw [e, ← ho, zu_at, if_pos rfl]
    exact Or.inr hy
theorem zU3 {S : Nat → Int32} {o y : Int32} (ho : 4 ≤ o) (x : Int32) (h0 : 0 ≤ x) (h1 : x < 4) : upd S o.toNatClampNeg y x.toNatClampNeg = S x.toNatClampNeg := by
  rw [zu_at, if_neg]
  intro q
  have := zinj x o h0 (by lia) q
  lia
theorem zU4 {F : Nat → Int32} {v z : Int32} (hv : v = 1) : upd F v.toNatClampNeg z (0 : Int32).toNatClampNeg = F (0 : Int32).toNatClampNeg := by
  rw [hv, zu_at, if_neg (by decide +kernel)]
theorem zU5 {F G : Nat → Int32} {v : Int32} (hF : 0 ≤ F v.toNatClampNeg ∧ F v.toNatClampNeg ≤ 14) (hG : G (14 + F v.toNatClampNeg).toNatClampNeg = (-1)) (k : Int32) (h0 : 0 ≤ k) (h1 : k < upd F v.toNatClampNeg (F v.toNatClampNeg + 1) v.toNatClampNeg) : k < F v.toNatClampNeg ∨ G (14 + k).toNatClampNeg = (-1) := by
  rw [zu_at, if_pos rfl] at h1
  by_cases c : k < F v.toNatClampNeg
  · exact Or.inl c
  · have e : k = F v.toNatClampNeg := by lia
    rw [e]
    exact Or.inr hG
theorem zU6 {f : Nat → Int32} {o a x : Int32} (h : o = a) : upd f o.toNatClampNeg x a.toNatClampNeg = x := by
  rw [h, zu_at, if_pos rfl]
theorem zU7 {f : Nat → Int32} {k : Nat} {x a b : Int32} (hf : ∀ i : Nat, a ≤ f i ∧ f i ≤ b) (hx : a ≤ x ∧ x ≤ b) (i : Nat) : a ≤ upd f k x i ∧ upd f k x i ≤ b := by
  rw [zu_at]
  split
  · exact hx
  · exact hf i
theorem zU8 {f : Nat → Int32} {k : Nat} {x m : Int32} (h : 0 ≤ x ∧ x < m) (i : Nat) : upd f k x i = f i ∨ 0 ≤ upd f k x i ∧ upd f k x i < m := by
  rw [zu_at]
  split
  · exact Or.inr h
  · exact Or.inl rfl
theorem zO1 {P Q R : Nat → Prop} (h : ∀ i, P i ∨ Q i) (i : Nat) : P i ∨ Q i ∨ R i := (h i).elim Or.inl (fun q => Or.inr (Or.inl q))
theorem zO2 {P Q R : Nat → Prop} (h : ∀ i, P i ∨ R i) (i : Nat) : P i ∨ Q i ∨ R i := (h i).elim Or.inl (fun q => Or.inr (Or.inr q))
theorem zmin13 {a b : Int32} {r : Int64} (ha : 0 ≤ a ∧ a ≤ 13) (hb : 0 ≤ b ∧ b ≤ 13) (h : (b.toInt64 ≤ r ∧ r ≤ b.toInt64 ∧ b.toInt64 ≤ a.toInt64) ∨ (a.toInt64 ≤ r ∧ r ≤ a.toInt64 ∧ a.toInt64 < b.toInt64)) : 0 ≤ r.toInt32 ∧ r.toInt32 ≤ 13 := by
  rcases h with ⟨h1, h2, _⟩ | ⟨h1, h2, _⟩
  · rw [Int64.le_antisymm h2 h1, z64_32]; exact hb
  · rw [Int64.le_antisymm h2 h1, z64_32]; exact ha
theorem z64_ge0 (x : Int32) : (0 : Int64) ≤ x.toInt64 ↔ 0 ≤ x := by
  rw [Int64.le_iff_toInt_le, z64_i, Int32.le_iff_toInt_le, zi_0]
  exact Iff.rfl
theorem z64_ltm (x y : Int32) (hy : 0 ≤ y) : x.toInt64 ≤ y.toInt64 - 1 ↔ x < y := by
  have h1 := Int32.le_iff_toInt_le.mp hy
  rw [zi_0] at h1
  have h2 := Int32.toInt_lt y
  rw [Int64.le_iff_toInt_le, Int64.toInt_sub, z64_i, z64_i, show (1 : Int64).toInt = 1 by decide +kernel, Int32.lt_iff_toInt_lt, Int.bmod_def]
  constructor
  · intro h
    split at h <;> omega
  · intro h
    split <;> omega
/-! a row copied from its second half to its first -/
theorem zC1 {S T : Nat → Int32} {d c : Int32} (hd : 0 ≤ d ∧ d ≤ 14) (hc : 0 ≤ c) (hc2 : c < d) (h1 : ∀ x : Int32, 0 ≤ x → x < c → S x.toNatClampNeg = T (d + x).toNatClampNeg) (h2 : ∀ x : Int32, d ≤ x → S x.toNatClampNeg = T x.toNatClampNeg) (x : Int32) (x0 : 0 ≤ x) (x1 : x < c + 1) : upd S c.toNatClampNeg (S (d + c).toNatClampNeg) x.toNatClampNeg = T (d + x).toNatClampNeg := by
  rw [zu_at]
  by_cases q : x = c
  · rw [if_pos (by rw [q]), h2 _ (by lia), q]
  · rw [if_neg (fun w => q (zinj x c x0 hc w)), h1 x x0 (by lia)]
theorem zC2 {S T : Nat → Int32} {d c : Int32} (hd : 0 ≤ d ∧ d ≤ 14) (hc : 0 ≤ c) (hc2 : c < d) (h2 : ∀ x : Int32, d ≤ x → S x.toNatClampNeg = T x.toNatClampNeg) (x : Int32) (x0 : d ≤ x) : upd S c.toNatClampNeg (S (d + c).toNatClampNeg) x.toNatClampNeg = T x.toNatClampNeg := by
  rw [zu_at, if_neg (fun w => by have := zinj x c (by lia) hc w; lia)]
  exact h2 x x0
theorem zC3 {S T : Nat → Int32} {c : Int32} (hc : 4 ≤ c) (h1 : ∀ x : Int32, 0 ≤ x → x < c → S x.toNatClampNeg = T (4 + x).toNatClampNeg) (h2 : ∀ x : Int32, 4 ≤ x → S x.toNatClampNeg = T x.toNatClampNeg) (x : Int32) (x0 : 0 ≤ x) (x1 : x < 4) : S x.toNatClampNeg = T (4 + x).toNatClampNeg ∧ S (4 + x).toNatClampNeg = T (4 + x).toNatClampNeg := ⟨h1 x x0 (by lia), h2 _ (by lia)⟩
theorem zC4 {S T : Nat → Int32} {c : Int32} (hc : 14 ≤ c) (h1 : ∀ x : Int32, 0 ≤ x → x < c → S x.toNatClampNeg = T (14 + x).toNatClampNeg) (x : Int32) (x0 : 0 ≤ x) (x1 : x < 14) : S x.toNatClampNeg = T (14 + x).toNatClampNeg := h1 x x0 (by lia)
theorem zTk3 {A B N X H H0 SF SS SN SX : Nat → Int32} (hA : A (0 : Int32).toNatClampNeg = SF (1 : Int32).toNatClampNeg) (hSF : ∀ i : Nat, 0 ≤ SF i ∧ SF i ≤ 4) (hB : ∀ x : Int32, 0 ≤ x → x < 4 → B x.toNatClampNeg = SS (4 + x).toNatClampNeg ∧ B (4 + x).toNatClampNeg = SS (4 + x).toNatClampNeg) (hS : ∀ x : Int32, 0 ≤ x → x < SF (1 : Int32).toNatClampNeg → 1 ≤ SS (4 + x).toNatClampNeg) (hN : N (0 : Int32).toNatClampNeg = SN (1 : Int32).toNatClampNeg) (hSN : ∀ i : Nat, 0 ≤ SN i ∧ SN i ≤ 14)
    (hX : ∀ k : Int32, 0 ≤ k → k < 14 → X k.toNatClampNeg = SX (14 + k).toNatClampNeg) (hSX : ∀ k : Int32, 0 ≤ k → k < SN (1 : Int32).toNatClampNeg → SX (14 + k).toNatClampNeg = (-1) ∨ 0 ≤ SX (14 + k).toNatClampNeg ∧ 1 ≤ SS (4 + SX (14 + k).toNatClampNeg).toNatClampNeg) (hSXr : ∀ i : Nat, (-1) ≤ SX i ∧ SX i ≤ 3) (hH : ∀ i : Nat, H i = H0 i ∨ H i = 0 ∨ ∃ k : Int32, 0 ≤ k ∧ k < N (0 : Int32).toNatClampNeg ∧ ¬ X k.toNatClampNeg = (-1) ∧ H i = X k.toNatClampNeg) (hA1 : 1 ≤ SF (1 : Int32).toNatClampNeg) :
    1 ≤ A (0 : Int32).toNatClampNeg ∧ (∀ x : Int32, 0 ≤ x → x < A (0 : Int32).toNatClampNeg → 1 ≤ B x.toNatClampNeg) ∧ (∀ i : Nat, H i = H0 i ∨ 1 ≤ B (H i).toNatClampNeg) := by
  have h4 := hSF (1 : Int32).toNatClampNeg
  have h14 := hSN (1 : Int32).toNatClampNeg
  have hx : ∀ x : Int32, 0 ≤ x → x < A (0 : Int32).toNatClampNeg → 1 ≤ B x.toNatClampNeg := by
    intro x x0 x1
    rw [hA] at x1
    rw [(hB x x0 (by lia)).1]
    exact hS x x0 x1
  refine ⟨by rw [hA]; exact hA1, hx, fun i => ?_⟩
  rcases hH i with q | q | ⟨k, k0, k1, k2, k3⟩
  · exact Or.inl q
  · rw [q]
    exact Or.inr (hx 0 (by decide) (by rw [hA]; lia))
  · rw [hN] at k1
    have e := hX k k0 (by lia)
    rw [e] at k2 k3
    rw [k3]
    have r := hSXr (14 + k).toNatClampNeg
    rcases hSX k k0 k1 with w | ⟨w0, w1⟩
    · exact absurd w k2
    · rw [(hB _ w0 (by lia)).1]
      exact Or.inr w1
theorem z64_r (x : Int32) (h : 1 ≤ x) : 1 ≤ x.toInt64 ∧ x.toInt64 ≤ 2147483647 := by
  have h1 := Int32.le_iff_toInt_le.mp h
  rw [zi_1'] at h1
  have h2 := Int32.toInt_lt x
  refine ⟨Int64.le_iff_toInt_le.mpr ?_, Int64.le_iff_toInt_le.mpr ?_⟩
  · rw [z64_i, show (1 : Int64).toInt = 1 by decide +kernel]; exact h1
  · rw [z64_i, show (2147483647 : Int64).toInt = 2147483647 by decide +kernel]; omega
theorem zdivm (x y : Int32) (h0 : 0 ≤ x) (h1 : x ≤ 1023) (h2 : 1 ≤ y) (h3 : y ≤ 4) : 0 ≤ x / y ∧ x / y ≤ x ∧ 0 ≤ x - x / y * y ∧ x - x / y * y < y := by
  have a0 := Int32.le_iff_toInt_le.mp h0
  have a1 := Int32.le_iff_toInt_le.mp h1
  have a2 := Int32.le_iff_toInt_le.mp h2
  have a3 := Int32.le_iff_toInt_le.mp h3
  rw [zi_0] at a0
  rw [show (1023 : Int32).toInt = 1023 by decide +kernel] at a1
  rw [zi_1'] at a2
  rw [show (4 : Int32).toInt = 4 by decide +kernel] at a3
  have e1 := zo_idiv (x := x) (y := y) (z := x / y) rfl rfl rfl ⟨a0, by omega⟩
  have d1 : 0 ≤ x.toInt / y.toInt := Int.ediv_nonneg a0 (by omega)
  have d2 : x.toInt / y.toInt * y.toInt ≤ x.toInt := Int.ediv_mul_le _ (by omega)
  have d3 : x.toInt < x.toInt / y.toInt * y.toInt + y.toInt := by
    have := Int.lt_ediv_add_one_mul_self x.toInt (show 0 < y.toInt by omega)
    rw [Int.add_mul, Int.one_mul] at this
    exact this
  have d4 : x.toInt / y.toInt ≤ x.toInt := Int.ediv_le_self _ a0
  have d5 : 0 ≤ x.toInt / y.toInt * y.toInt := Int.mul_nonneg d1 (by omega)
  have e2 := zo_mul (x := x / y) (y := y) (z := x / y * y) rfl e1 rfl (by omega)
  have e3 := zo_sub (x := x) (y := x / y * y) (z := x - x / y * y) rfl rfl e2 (by omega)
  refine ⟨Int32.le_iff_toInt_le.mpr ?_, Int32.le_iff_toInt_le.mpr ?_, Int32.le_iff_toInt_le.mpr ?_, Int32.lt_iff_toInt_lt.mpr ?_⟩
  · rw [zi_0, e1]; exact d1
  · rw [e1]; exact d4
  · rw [zi_0, e3]; omega
  · rw [e3]; omega
theorem zStR {R G St : Nat → Int32} {m : Int32} (h1 : ∀ x : Int32, 0 ≤ x → x < m → 1 ≤ St x.toNatClampNeg) (h2 : ∀ i : Nat, 1 ≤ St (G i).toNatClampNeg) (h : ∀ i : Nat, R i = G i ∨ 0 ≤ R i ∧ R i < m) (i : Nat) : 1 ≤ St (R i).toNatClampNeg := by
  rcases h i with q | q
  · rw [q]; exact h2 i
  · exact h1 _ q.1 q.2
