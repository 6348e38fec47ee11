theorem zPair_of (w : Nat) (h : w < 13) : zPair (Int32.ofNat w) (Int32.ofNat (zStT w)) ∧ 0 ≤ Int32.ofNat w ∧ Int32.ofNat w ≤ 12 ∧ (Int32.ofNat (zStT w)).toNatClampNeg = zStT w := by
  unfold zPair
  match w, h with
  | 0, _ => decide +kernel
  | 1, _ => decide +kernel
  | 2, _ => decide +kernel
  | 3, _ => decide +kernel
  | 4, _ => decide +kernel
  | 5, _ => decide +kernel
  | 6, _ => decide +kernel
  | 7, _ => decide +kernel
  | 8, _ => decide +kernel
  | 9, _ => decide +kernel
  | 10, _ => decide +kernel
  | 11, _ => decide +kernel
  | 12, _ => decide +kernel
