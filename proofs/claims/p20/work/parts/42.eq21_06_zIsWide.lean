theorem zIsWide {m : Int32} {w : Nat → Int32} (hm : (-1) ≤ m ∧ m < 14) {x : Int32} (h : fn_X6_isWide m w = some x) : x = 0 ∧ ¬ zWd w m ∨ x = 1 ∧ zWd w m := by
  unfold fn_X6_isWide at h
  by_cases c : m < 0
  · rw [if_pos c] at h
    exact Or.inl ⟨(Option.some.inj h).symm, fun q => q.1 (by grind)⟩
  · rw [if_neg c, if_neg (by grind)] at h
    obtain ⟨-, h⟩ := zg_s h
    by_cases d : w m.toNatClampNeg = 0
    · rw [if_pos d] at h
      exact Or.inl ⟨(Option.some.inj h).symm, fun q => q.2 d⟩
    · rw [if_neg d] at h
      exact Or.inr ⟨(Option.some.inj h).symm, by grind, d⟩
