theorem zLV_b {g : Nat → Int32} {s K : Nat} (hl : ∀ i : Nat, i < K → 97 ≤ (g (s + i)).toInt ∧ (g (s + i)).toInt ≤ 122) (i : Nat) : 0 ≤ zLV g s K i ∧ zLV g s K i < 32 := by
  unfold zLV
  split
  · have := hl i (by assumption)
    omega
  · omega
