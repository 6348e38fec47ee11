theorem zAdd2 {x y : Int32} {n : Int} (hx : 0 ≤ x.toInt) (hy : 0 ≤ y.toInt) (hn : x.toInt + y.toInt ≤ n) (h : n ≤ 100000) : (x + y).toInt = x.toInt + y.toInt ∧ (x + y).toNatClampNeg = x.toNatClampNeg + y.toNatClampNeg := by
  have e := zo_add (x := x) (y := y) (z := x + y) rfl rfl rfl (by omega)
  refine ⟨e, ?_⟩
  show (x + y).toInt.toNat = x.toInt.toNat + y.toInt.toNat
  omega
