theorem zBeg_n {o : Int32} (h : zBeg o) : ¬ o = (-1) := by
  rcases h with rfl | rfl | rfl | rfl | rfl | rfl | rfl <;> decide
