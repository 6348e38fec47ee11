theorem zRN1_c {i inp : Int32} {more : Int64} {op made amt w w' : Nat → Int32} {lo hi lo' hi' : Nat → Int64} (i0 : 0 ≤ i) (hk : zOk i op made) (h : ∀ j : Int32, 0 ≤ j → j < i + 1 → lo' j.toNatClampNeg = lo j.toNatClampNeg ∧ hi' j.toNatClampNeg = hi j.toNatClampNeg ∧ w' j.toNatClampNeg = w j.toNatClampNeg) (i1 : i < 14) (H : zRN1 i inp more op made amt w lo hi) : zRN1 i inp more op made amt w' lo' hi' := by
  obtain ⟨e1, e2⟩ := zLw_b (amt := amt) hk (fun j j0 j1 => ⟨(h j j0 (by grind)).1, (h j j0 (by grind)).2.1⟩)
  obtain ⟨f1, f2, f3⟩ := h i i0 (by grind)
  obtain ⟨k1, k2, k3, k4⟩ := hk
  have g0 : zWd w' (made (2 * i + 0).toNatClampNeg) ↔ zWd w (made (2 * i + 0).toNatClampNeg) := zWd_c (by
    by_cases c : made (2 * i + 0).toNatClampNeg = (-1)
    · exact Or.inl c
    · exact Or.inr (h _ (by grind) (by grind)).2.2)
  have g1 : zWd w' (made (2 * i + 1).toNatClampNeg) ↔ zWd w (made (2 * i + 1).toNatClampNeg) := zWd_c (by
    by_cases c : made (2 * i + 1).toNatClampNeg = (-1)
    · exact Or.inl c
    · exact Or.inr (h _ (by grind) (by grind)).2.2)
  unfold zRN1
  rw [e1, e2, f1, f2, f3, g0, g1]
  exact H
