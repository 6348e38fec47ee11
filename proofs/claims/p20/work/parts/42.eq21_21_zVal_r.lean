theorem zVal_r {m a : Int32} {row : Nat → Int64} (ha : (-10000000) ≤ a ∧ a ≤ 10000000) (h : m = (-1) ∨ (-1000000000 ≤ row m.toNatClampNeg ∧ row m.toNatClampNeg ≤ 1000000000)) : -1000000000 ≤ zVal m a row ∧ zVal m a row ≤ 1000000000 := by
  unfold zVal
  by_cases c : m = (-1)
  · rw [if_pos c, show (-1000000000 : Int64) = (-1000000000 : Int32).toInt64 by decide +kernel, show (1000000000 : Int64) = (1000000000 : Int32).toInt64 by decide +kernel, z64_le, z64_le]
    constructor <;> grind
  · rw [if_neg c]
    exact h.resolve_left c
