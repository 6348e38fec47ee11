theorem zWd_c {w w' : Nat → Int32} {m : Int32} (h : m = (-1) ∨ w' m.toNatClampNeg = w m.toNatClampNeg) : zWd w' m ↔ zWd w m := by
  unfold zWd
  rcases h with h | h
  · exact ⟨fun q => absurd h q.1, fun q => absurd h q.1⟩
  · rw [h]
