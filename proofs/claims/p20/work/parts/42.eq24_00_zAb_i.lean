/-! a CHOICE that is reckoned: whether it PASSES, where it FAILS, its ERRORS -/
theorem zAb_i {x : Int64} (h : -9223372036854775808 < x.toInt) : (zAb x).toInt = x.toInt ∧ 0 ≤ x.toInt ∨ (zAb x).toInt = -x.toInt ∧ x.toInt ≤ 0 := by
  unfold zAb
  by_cases c : 0 < x
  · rw [if_pos c]
    have := Int64.lt_iff_toInt_lt.mp c
    rw [zl0] at this
    exact Or.inl ⟨rfl, by omega⟩
  · rw [if_neg c]
    have c' : ¬ (0 : Int64).toInt < x.toInt := fun q => c (Int64.lt_iff_toInt_lt.mpr q)
    rw [zl0] at c'
    have := zoL_sub (x := 0) (y := x) (z := 0 - x) rfl zl0 rfl (by omega)
    rw [Int64.zero_sub] at this
    exact Or.inr ⟨by omega, by omega⟩
