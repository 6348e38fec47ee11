theorem zOwS_un {v o p : Int32} (h1 : zOwS v o) (h2 : zOwS v p) : o = p := by
  have hinj : ∀ w : Nat, w < 13 → ∀ x : Nat, x < 13 → zOwT w = zOwT x → w = x := by decide +kernel
  have hb : ∀ x : Int32, 0 ≤ x → x < 13 → x.toNatClampNeg < 13 := by
    intro x h0 h1
    have := zcl x 12 12 (by decide) (by grind)
    omega
  rcases h1 with ⟨a1, a2⟩ | ⟨a1, a2, a3⟩
  · rcases h2 with ⟨b1, b2⟩ | ⟨b1, b2, b3⟩
    · rw [a1, b1]
    · exact absurd b3 (a2 _ (hb _ b1 b2))
  · rcases h2 with ⟨b1, b2⟩ | ⟨b1, b2, b3⟩
    · exact absurd a3 (b2 _ (hb _ a1 a2))
    · exact zinj o p a1 b1 (hinj _ (hb _ a1 a2) _ (hb _ b1 b2) (a3.trans b3.symm))

