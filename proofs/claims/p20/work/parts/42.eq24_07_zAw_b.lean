theorem zAw_b {m a : Int32} {lo hi : Nat → Int64} (ha : (-10000000) ≤ a ∧ a ≤ 10000000) (h : m = (-1) ∨ ((-1000000000 ≤ (lo m.toNatClampNeg).toInt ∧ (lo m.toNatClampNeg).toInt ≤ 1000000000) ∧ (-1000000000 ≤ (hi m.toNatClampNeg).toInt ∧ (hi m.toNatClampNeg).toInt ≤ 1000000000))) : 0 ≤ (zAw m a lo hi).toInt ∧ (zAw m a lo hi).toInt ≤ 1000000000 := by
  have k1 := Int32.le_iff_toInt_le.mp ha.1
  have k2 := Int32.le_iff_toInt_le.mp ha.2
  rw [show (-10000000 : Int32).toInt = -10000000 by decide +kernel] at k1
  rw [show (10000000 : Int32).toInt = 10000000 by decide +kernel] at k2
  have v : ∀ row : Nat → Int64, (m = (-1) ∨ (-1000000000 ≤ (row m.toNatClampNeg).toInt ∧ (row m.toNatClampNeg).toInt ≤ 1000000000)) → -1000000000 ≤ (zVal m a row).toInt ∧ (zVal m a row).toInt ≤ 1000000000 := by
    intro row hr
    unfold zVal
    by_cases c : m = (-1)
    · rw [if_pos c, z64_i]; omega
    · rw [if_neg c]; exact hr.resolve_left c
  have v1 := v lo (h.imp id (fun q => q.1))
  have v2 := v hi (h.imp id (fun q => q.2))
  have a1 := zAb_i (x := zVal m a lo) (by omega)
  have a2 := zAb_i (x := zVal m a hi) (by omega)
  have m1 := zMx_i (zAb (zVal m a lo)) (zAb (zVal m a hi))
  unfold zAw
  omega
