theorem zi_b {x c : Int32} {n : Int} (hc : c.toInt = n) (h0 : 0 ≤ x) (h1 : x ≤ c) : 0 ≤ x.toInt ∧ x.toInt ≤ n := by
  have a := Int32.le_iff_toInt_le.mp h0
  have b := Int32.le_iff_toInt_le.mp h1
  rw [zi_0] at a
  omega
