theorem zTok_o {n a e k s v o : Int32} {f g : Nat → Int32} (T : zTok n f g a e k s v o) (h : ¬ o = (-1)) : k = 1 ∧ e - s ≤ 6 ∧ zRun n g 1 s e ∧ v.toInt = zCV (zLV g s.toNatClampNeg (zSz s e)) ∧ zOwS v o := by
  obtain ⟨_, _, _, T⟩ := T
  rcases T with ⟨_, _, _, q⟩ | ⟨_, _, _, _, q⟩ | ⟨_, _, _, _, q⟩ | ⟨_, q1, _, q2, q3, q4, q5⟩ | ⟨_, _, _, _, q⟩ | ⟨_, _, _, _, _, _, q⟩
  · exact absurd q h
  · exact absurd q h
  · exact absurd q h
  · exact ⟨q3, q2, q1, q4, q5⟩
  · exact absurd q h
  · exact absurd q h
