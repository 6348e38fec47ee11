theorem zLw_b {i : Int32} {op made amt : Nat → Int32} {lo hi lo' hi' : Nat → Int64} (hk : zOk i op made) (h : ∀ j : Int32, 0 ≤ j → j < i → lo' j.toNatClampNeg = lo j.toNatClampNeg ∧ hi' j.toNatClampNeg = hi j.toNatClampNeg) : zLw i op made amt lo' hi' = zLw i op made amt lo hi ∧ zHg i op made amt lo' hi' = zHg i op made amt lo hi := by
  obtain ⟨k1, k2, k3, k4⟩ := hk
  refine zLw_c ?_ ?_
  · by_cases c : made (2 * i + 0).toNatClampNeg = (-1)
    · exact Or.inl c
    · exact Or.inr (h _ (by grind) k2.2)
  · by_cases c : made (2 * i + 1).toNatClampNeg = (-1)
    · exact Or.inl c
    · exact Or.inr (h _ (by grind) k3.2)
