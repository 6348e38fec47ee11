theorem zAmtOf {i : Int32} {f g : Nat → Int64} (hi : 0 ≤ i ∧ i < 14) : fn_X6_amountOf i f g = some (zMx (zAb (f i.toNatClampNeg)) (zAb (g i.toNatClampNeg))) := by
  unfold fn_X6_amountOf
  rw [zg_in 14 (by decide +kernel) hi]
  rfl
