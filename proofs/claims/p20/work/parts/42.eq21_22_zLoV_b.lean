theorem zLoV_b {p : Int32} {a b c d : Int64} (ha : -1000000000 ≤ a ∧ a ≤ 1000000000) (hb : -1000000000 ≤ b ∧ b ≤ 1000000000) (hc : -1000000000 ≤ c ∧ c ≤ 1000000000) (hd : -1000000000 ≤ d ∧ d ≤ 1000000000) : (-5000000000000000 ≤ zLoV p a b c d ∧ zLoV p a b c d ≤ 5000000000000000) ∧ (-5000000000000000 ≤ zHiV p a b c d ∧ zHiV p a b c d ≤ 5000000000000000) := by
  have p1 := zPr_b a c
  have p2 := zPr_b a d
  have p3 := zPr_b b c
  have p4 := zPr_b b d
  unfold zLoV zHiV zAp
  generalize zPr a c 1 = q1 at p1 ⊢
  generalize zPr a d 1 = q2 at p2 ⊢
  generalize zPr b c 1 = q3 at p3 ⊢
  generalize zPr b d 1 = q4 at p4 ⊢
  have mn : ∀ x y : Int64, zLs x y = x ∨ zLs x y = y := fun x y => by unfold zLs; grind
  have mx : ∀ x y : Int64, zMx x y = x ∨ zMx x y = y := fun x y => by unfold zMx; grind
  by_cases c2 : p = 2
  · rw [if_pos c2, if_pos c2]
    refine ⟨⟨?_, ?_⟩, ?_, ?_⟩ <;> grind
  · rw [if_neg c2, if_neg c2]
    by_cases c3 : p = 3
    · rw [if_pos c3, if_pos c3]
      have m1 := mn q1 q2
      have m2 := mn q3 q4
      have m3 := mn (zLs q1 q2) (zLs q3 q4)
      have n1 := mx q1 q2
      have n2 := mx q3 q4
      have n3 := mx (zMx q1 q2) (zMx q3 q4)
      generalize zLs q1 q2 = u1 at m1 m3 ⊢
      generalize zLs q3 q4 = u2 at m2 m3 ⊢
      generalize zLs u1 u2 = u3 at m3 ⊢
      generalize zMx q1 q2 = v1 at n1 n3 ⊢
      generalize zMx q3 q4 = v2 at n2 n3 ⊢
      generalize zMx v1 v2 = v3 at n3 ⊢
      refine ⟨⟨?_, ?_⟩, ?_, ?_⟩ <;> grind
    · rw [if_neg c3, if_neg c3, if_neg c3, if_neg c2, if_neg c3, if_neg c2]
      have m1 := mn a c
      have n1 := mx a c
      have m2 := mn b d
      have n2 := mx b d
      generalize zLs a c = u1 at m1 ⊢
      generalize zMx a c = u2 at n1 ⊢
      generalize zLs b d = u3 at m2 ⊢
      generalize zMx b d = u4 at n2 ⊢
      by_cases c1 : p = 1
      · rw [if_pos c1, if_pos c1]
        refine ⟨⟨?_, ?_⟩, ?_, ?_⟩ <;> grind
      · rw [if_neg c1, if_neg c1]
        by_cases c4 : p = 4
        · rw [if_pos c4, if_pos c4]
          refine ⟨⟨?_, ?_⟩, ?_, ?_⟩ <;> grind
        · rw [if_neg c4, if_neg c4]
          refine ⟨⟨?_, ?_⟩, ?_, ?_⟩ <;> grind
