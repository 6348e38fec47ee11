theorem z64_r (x : Int32) (h : 1 ≤ x) : 1 ≤ x.toInt64 ∧ x.toInt64 ≤ 2147483647 := by
  have h1 := Int32.le_iff_toInt_le.mp h
  rw [zi_1'] at h1
  have h2 := Int32.toInt_lt x
  refine ⟨Int64.le_iff_toInt_le.mpr ?_, Int64.le_iff_toInt_le.mpr ?_⟩
  · rw [z64_i, show (1 : Int64).toInt = 1 by decide +kernel]; exact h1
  · rw [z64_i, show (2147483647 : Int64).toInt = 2147483647 by decide +kernel]; omega
theorem zdivm (x y : Int32) (h0 : 0 ≤ x) (h1 : x ≤ 1023) (h2 : 1 ≤ y) (h3 : y ≤ 4) : 0 ≤ x / y ∧ x / y ≤ x ∧ 0 ≤ x - x / y * y ∧ x - x / y * y < y := by
  have a0 := Int32.le_iff_toInt_le.mp h0
  have a1 := Int32.le_iff_toInt_le.mp h1
  have a2 := Int32.le_iff_toInt_le.mp h2
  have a3 := Int32.le_iff_toInt_le.mp h3
  rw [zi_0] at a0
  rw [show (1023 : Int32).toInt = 1023 by decide +kernel] at a1
  rw [zi_1'] at a2
  rw [show (4 : Int32).toInt = 4 by decide +kernel] at a3
  have e1 := zo_idiv (x := x) (y := y) (z := x / y) rfl rfl rfl ⟨a0, by omega⟩
  have d1 : 0 ≤ x.toInt / y.toInt := Int.ediv_nonneg a0 (by omega)
  have d2 : x.toInt / y.toInt * y.toInt ≤ x.toInt := Int.ediv_mul_le _ (by omega)
  have d3 : x.toInt < x.toInt / y.toInt * y.toInt + y.toInt := by
    have := Int.lt_ediv_add_one_mul_self x.toInt (show 0 < y.toInt by omega)
    rw [Int.add_mul, Int.one_mul] at this
    exact this
  have d4 : x.toInt / y.toInt ≤ x.toInt := Int.ediv_le_self _ a0
  have d5 : 0 ≤ x.toInt / y.toInt * y.toInt := Int.mul_nonneg d1 (by omega)
  have e2 := zo_mul (x := x / y) (y := y) (z := x / y * y) rfl e1 rfl (by omega)
  have e3 := zo_sub (x := x) (y := x / y * y) (z := x - x / y * y) rfl rfl e2 (by omega)
  refine ⟨Int32.le_iff_toInt_le.mpr ?_, Int32.le_iff_toInt_le.mpr ?_, Int32.le_iff_toInt_le.mpr ?_, Int32.lt_iff_toInt_lt.mpr ?_⟩
  · rw [zi_0, e1]; exact d1
  · rw [e1]; exact d4
  · rw [zi_0, e3]; omega
  · rw [e3]; omega
