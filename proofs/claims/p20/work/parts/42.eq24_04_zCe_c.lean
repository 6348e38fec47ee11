theorem zCe_c {S own own' e e' : Int64} {m a : Int32} (h : m = (-1) ∨ (own' = own ∧ e' = e)) : zCe S m a own' e' = zCe S m a own e := by
  unfold zCe
  rcases h with h | ⟨h1, h2⟩
  · rw [if_pos h, if_pos h]
  · rw [h1, h2]
