theorem zand31 (x : Int32) : 0 ≤ x &&& 31 ∧ x &&& 31 ≤ 31 := by
  have h := zo_and31 (x := x) (z := x &&& 31) rfl
  refine ⟨Int32.le_iff_toInt_le.mpr ?_, Int32.le_iff_toInt_le.mpr ?_⟩
  · rw [zi_0]; exact h.1
  · rw [show (31 : Int32).toInt = 31 by decide +kernel]; exact h.2
theorem zand255 (x : Int32) : 0 ≤ x &&& 255 ∧ x &&& 255 ≤ 255 := by
  have h := zo_and255 (x := x) (z := x &&& 255) rfl
  refine ⟨Int32.le_iff_toInt_le.mpr ?_, Int32.le_iff_toInt_le.mpr ?_⟩
  · rw [zi_0]; exact h.1
  · rw [show (255 : Int32).toInt = 255 by decide +kernel]; exact h.2
