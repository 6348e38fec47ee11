theorem zIsAns {i cN : Int32} {al : Nat → Int32} (hN : cN ≤ 14) (hi : 0 ≤ i ∧ i < cN) : fn_X9_isAnswer i cN al = some (if al i.toNatClampNeg = (-1) then 0 else 1) := by
  unfold fn_X9_isAnswer
  rw [zHasN, zb_some, if_neg (by rw [zif1]; exact fun q => q hi), zg_in 14 (by decide +kernel) ⟨hi.1, by grind⟩]
  by_cases c : al i.toNatClampNeg = (-1)
  · rw [if_pos c, if_pos c]
  · rw [if_neg c, if_neg c]
