theorem zHd_w {x : Int64} (hx : -9223372036854775808 < x) : 1000000000 < zAb (zHd x) ↔ 1000000000 < zAb x := by
  by_cases h : -2000000000 ≤ x ∧ x ≤ 2000000000
  · rw [zHd_in h]
  · have e : zHd x = 2000000000 ∧ 2000000000 < x ∨ zHd x = -2000000000 ∧ x < -2000000000 := by
      unfold zHd
      grind
    rcases e with ⟨e1, e2⟩ | ⟨e1, e2⟩
    · rw [e1]
      unfold zAb
      rw [if_pos (by decide), if_pos (by grind)]
      exact ⟨fun _ => by grind, fun _ => by decide⟩
    · rw [e1]
      unfold zAb
      rw [if_neg (by decide), if_neg (by grind)]
      exact ⟨fun _ => by grind, fun _ => by decide⟩
