theorem zGrPt {m x : Int32} {ig : Nat → Int32} (h : fn_X12_isGreatPart m ig = some x) : x = 0 ∧ ¬ zWd ig m ∨ x = 1 ∧ zWd ig m := by
  unfold fn_X12_isGreatPart at h
  by_cases c : m = (-1)
  · rw [if_pos c] at h
    exact Or.inl ⟨(Option.some.inj h).symm, fun q => q.1 c⟩
  · rw [if_neg c] at h
    obtain ⟨-, h⟩ := zg_s h
    by_cases d : ig m.toNatClampNeg = 0
    · rw [if_pos d] at h
      exact Or.inl ⟨(Option.some.inj h).symm, fun q => q.2 d⟩
    · rw [if_neg d] at h
      exact Or.inr ⟨(Option.some.inj h).symm, c, d⟩
