theorem zLw_c {i : Int32} {op made amt : Nat → Int32} {lo hi lo' hi' : Nat → Int64} (h0 : made (2 * i + 0).toNatClampNeg = (-1) ∨ (lo' (made (2 * i + 0).toNatClampNeg).toNatClampNeg = lo (made (2 * i + 0).toNatClampNeg).toNatClampNeg ∧ hi' (made (2 * i + 0).toNatClampNeg).toNatClampNeg = hi (made (2 * i + 0).toNatClampNeg).toNatClampNeg)) (h1 : made (2 * i + 1).toNatClampNeg = (-1) ∨ (lo' (made (2 * i + 1).toNatClampNeg).toNatClampNeg = lo (made (2 * i + 1).toNatClampNeg).toNatClampNeg ∧ hi' (made (2 * i + 1).toNatClampNeg).toNatClampNeg = hi (made (2 * i + 1).toNatClampNeg).toNatClampNeg)) : zLw i op made amt lo' hi' = zLw i op made amt lo hi ∧ zHg i op made amt lo' hi' = zHg i op made amt lo hi := by
  have a0 : zVal (made (2 * i + 0).toNatClampNeg) (amt (2 * i + 0).toNatClampNeg) lo' = zVal (made (2 * i + 0).toNatClampNeg) (amt (2 * i + 0).toNatClampNeg) lo := zVal_c (h0.imp id (fun q => q.1))
  have a1 : zVal (made (2 * i + 0).toNatClampNeg) (amt (2 * i + 0).toNatClampNeg) hi' = zVal (made (2 * i + 0).toNatClampNeg) (amt (2 * i + 0).toNatClampNeg) hi := zVal_c (h0.imp id (fun q => q.2))
  have b0 : zVal (made (2 * i + 1).toNatClampNeg) (amt (2 * i + 1).toNatClampNeg) lo' = zVal (made (2 * i + 1).toNatClampNeg) (amt (2 * i + 1).toNatClampNeg) lo := zVal_c (h1.imp id (fun q => q.1))
  have b1 : zVal (made (2 * i + 1).toNatClampNeg) (amt (2 * i + 1).toNatClampNeg) hi' = zVal (made (2 * i + 1).toNatClampNeg) (amt (2 * i + 1).toNatClampNeg) hi := zVal_c (h1.imp id (fun q => q.2))
  unfold zLw zHg
  rw [a0, a1, b0, b1]
  exact ⟨rfl, rfl⟩
