theorem zV_b {a b x y : Int64} (ha : 0 ≤ a.toInt ∧ a.toInt ≤ 2000000000) (hb : 0 ≤ b.toInt ∧ b.toInt ≤ 2000000000) (hx : 0 ≤ x.toInt ∧ x.toInt ≤ 1000000000) (hy : 0 ≤ y.toInt ∧ y.toInt ≤ 1000000000) : 0 ≤ (x * b + y * a + a * b).toInt ∧ (x * b + y * a + a * b).toInt ≤ 8000000000000000000 := by
  have p1 := zmulb hx hb (by omega)
  have p2 := zmulb hy ha (by omega)
  have p3 := zmulb ha hb (by omega)
  have s1 := zoL_add (x := x * b) (y := y * a) (z := x * b + y * a) rfl rfl rfl (by omega)
  have s2 := zoL_add (x := x * b + y * a) (y := a * b) (z := x * b + y * a + a * b) rfl s1 rfl (by omega)
  omega
