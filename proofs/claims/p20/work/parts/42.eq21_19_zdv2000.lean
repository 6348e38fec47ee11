theorem zdv2000 (x : Int64) : -4611686018427388 ≤ x / 2000 ∧ x / 2000 ≤ 4611686018427388 := by
  have e : (x / 2000).toInt = x.toInt.tdiv 2000 := by
    rw [Int64.toInt_div_of_ne_right]
    · rfl
    · decide
  have h1 := Int64.toInt_lt x
  have h2 := Int64.le_toInt x
  have h3 : -4611686018427388 ≤ x.toInt.tdiv 2000 ∧ x.toInt.tdiv 2000 ≤ 4611686018427388 := by
    by_cases c : 0 ≤ x.toInt
    · rw [Int.tdiv_eq_ediv_of_nonneg c]
      omega
    · have := Int.tdiv_eq_ediv_of_nonneg (a := -x.toInt) (b := 2000) (by omega)
      rw [Int.neg_tdiv] at this
      omega
  refine ⟨Int64.le_iff_toInt_le.mpr ?_, Int64.le_iff_toInt_le.mpr ?_⟩
  · rw [e, show (-4611686018427388 : Int64).toInt = -4611686018427388 by decide +kernel]
    exact h3.1
  · rw [e, show (4611686018427388 : Int64).toInt = 4611686018427388 by decide +kernel]
    exact h3.2
