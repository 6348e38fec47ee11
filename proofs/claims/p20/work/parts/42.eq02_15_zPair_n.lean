theorem zPair_n {n k : Int32} (h : zPair n k) (h0 : 0 ≤ n) (h1 : n ≤ 12) : n.toNatClampNeg < 13 ∧ k.toNatClampNeg = zStT n.toNatClampNeg := by
  unfold zPair at h
  rcases h with ⟨rfl, rfl⟩ | ⟨rfl, rfl⟩ | ⟨rfl, rfl⟩ | ⟨rfl, rfl⟩ | ⟨rfl, rfl⟩ | ⟨rfl, rfl⟩ | ⟨rfl, rfl⟩ | ⟨rfl, rfl⟩ | ⟨rfl, rfl⟩ | ⟨rfl, rfl⟩ | ⟨rfl, rfl⟩ | ⟨rfl, rfl⟩ | ⟨rfl, rfl⟩ | ⟨rfl, rfl⟩
  all_goals first | decide +kernel | exact absurd h1 (by decide)
