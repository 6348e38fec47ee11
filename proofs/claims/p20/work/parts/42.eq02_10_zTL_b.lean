theorem zTL_b {k len : Nat} (h : ∀ i : Nat, i < len → 1 ≤ (zTab (k + i)).toInt ∧ (zTab (k + i)).toInt ≤ 26) (i : Nat) : 0 ≤ zTL k len i ∧ zTL k len i < 32 := by
  unfold zTL
  split
  · have := h i (by assumption)
    omega
  · omega
