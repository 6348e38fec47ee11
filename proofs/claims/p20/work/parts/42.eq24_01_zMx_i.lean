theorem zMx_i (a b : Int64) : (zMx a b).toInt = a.toInt ∧ b.toInt ≤ a.toInt ∨ (zMx a b).toInt = b.toInt ∧ a.toInt ≤ b.toInt := by
  unfold zMx
  by_cases c : b < a
  · rw [if_pos c]
    have := Int64.lt_iff_toInt_lt.mp c
    exact Or.inl ⟨rfl, by omega⟩
  · rw [if_neg c]
    have c' : ¬ b.toInt < a.toInt := fun q => c (Int64.lt_iff_toInt_lt.mpr q)
    exact Or.inr ⟨rfl, by omega⟩
