theorem zEr_b {p s : Int32} {a b x y : Int64} (hs : 1 ≤ s ∧ s ≤ 1000000) (ha : 0 ≤ a.toInt ∧ a.toInt ≤ 2000000000) (hb : 0 ≤ b.toInt ∧ b.toInt ≤ 2000000000) (hx : 0 ≤ x.toInt ∧ x.toInt ≤ 1000000000) (hy : 0 ≤ y.toInt ∧ y.toInt ≤ 1000000000) : 0 ≤ (zEr p s.toInt64 a b x y).toInt ∧ (zEr p s.toInt64 a b x y).toInt ≤ 9000000000000000 := by
  have hh := zhf_b hs
  unfold zEr
  by_cases c0 : p = 0
  · rw [if_pos c0]; omega
  · rw [if_neg c0]
    by_cases c1 : p = 1 ∨ p = 2
    · rw [if_pos c1]
      have := zoL_add (x := a) (y := b) rfl rfl rfl (by omega)
      omega
    · rw [if_neg c1]
      by_cases c3 : p = 3
      · rw [if_pos c3]
        have v := zV_b ha hb hx hy
        have z := zceil v.1 (by omega)
        rw [← z.1]
        generalize (x * b + y * a + a * b) = V at v z ⊢
        have s1 := zoL_add (x := (V + 999) / 1000) (y := s.toInt64 / 2) rfl z.2 rfl (by omega)
        have s2 := zoL_add (x := (V + 999) / 1000 + s.toInt64 / 2) (y := 1) rfl s1 (show (1 : Int64).toInt = 1 by decide +kernel) (by omega)
        omega
      · rw [if_neg c3]
        have := zMx_i a b
        omega
