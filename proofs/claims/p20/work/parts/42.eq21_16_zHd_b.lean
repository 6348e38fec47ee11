theorem zHd_b (x : Int64) : -2000000000 ≤ zHd x ∧ zHd x ≤ 2000000000 := by
  unfold zHd
  constructor <;> grind
