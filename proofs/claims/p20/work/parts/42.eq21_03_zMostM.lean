theorem zMostM {i : Int32} {f g : Nat → Int64} {x : Int64} (h : fn_X12_mostOf i f g = some x) : x = zMx (zAb (f i.toNatClampNeg)) (zAb (g i.toNatClampNeg)) := by
  unfold fn_X12_mostOf at h
  obtain ⟨-, h⟩ := zg_s h
  simp only [zAmo, zGre, zb_some] at h
  exact (Option.some.inj h).symm
