theorem zhf_b {s : Int32} (h : 1 ≤ s ∧ s ≤ 1000000) : 0 ≤ (s.toInt64 / 2).toInt ∧ (s.toInt64 / 2).toInt ≤ 500000 := by
  have k1 := Int32.le_iff_toInt_le.mp h.1
  have k2 := Int32.le_iff_toInt_le.mp h.2
  rw [zi_1'] at k1
  rw [show (1000000 : Int32).toInt = 1000000 by decide +kernel] at k2
  rw [Int64.toInt_div_of_ne_right _ _ (by decide), z64_i, show (2 : Int64).toInt = 2 by decide +kernel, Int.tdiv_eq_ediv_of_nonneg (by omega)]
  omega
