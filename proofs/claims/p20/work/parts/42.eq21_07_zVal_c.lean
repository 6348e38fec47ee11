theorem zVal_c {m a : Int32} {lo lo' : Nat → Int64} (h : m = (-1) ∨ lo' m.toNatClampNeg = lo m.toNatClampNeg) : zVal m a lo' = zVal m a lo := by
  unfold zVal
  rcases h with h | h
  · rw [if_pos h, if_pos h]
  · rw [h]
