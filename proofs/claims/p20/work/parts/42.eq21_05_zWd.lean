noncomputable def zWd (w : Nat → Int32) (m : Int32) : Prop := ¬ m = (-1) ∧ ¬ w m.toNatClampNeg = 0
