theorem zHd_i (x : Int64) : zHd x = x ∧ -2000000000 ≤ x.toInt ∧ x.toInt ≤ 2000000000 ∨ (zHd x).toInt = 2000000000 ∧ 2000000000 < x.toInt ∨ (zHd x).toInt = -2000000000 ∧ x.toInt < -2000000000 := by
  have e1 : (2000000000 : Int64).toInt = 2000000000 := by decide +kernel
  have e2 : (-2000000000 : Int64).toInt = -2000000000 := by decide +kernel
  unfold zHd
  by_cases c : x < 2000000000
  · rw [if_pos c]
    have h1 := Int64.lt_iff_toInt_lt.mp c
    rw [e1] at h1
    by_cases d : x < -2000000000
    · rw [if_pos d]
      have h2 := Int64.lt_iff_toInt_lt.mp d
      rw [e2] at h2
      exact Or.inr (Or.inr ⟨e2, h2⟩)
    · rw [if_neg d]
      have h2 : ¬ x.toInt < (-2000000000 : Int64).toInt := fun q => d (Int64.lt_iff_toInt_lt.mpr q)
      rw [e2] at h2
      exact Or.inl ⟨rfl, by omega, by omega⟩
  · rw [if_neg c, if_neg (by decide)]
    have h1 : ¬ x.toInt < (2000000000 : Int64).toInt := fun q => c (Int64.lt_iff_toInt_lt.mpr q)
    rw [e1] at h1
    by_cases d : x.toInt = 2000000000
    · have : x = 2000000000 := Int64.toInt_inj.mp (by rw [d, e1])
      exact Or.inl ⟨this.symm, by omega, by omega⟩
    · exact Or.inr (Or.inl ⟨e1, by omega⟩)
