theorem zHd_in {x : Int64} (h : -2000000000 ≤ x ∧ x ≤ 2000000000) : zHd x = x := by
  unfold zHd
  grind
