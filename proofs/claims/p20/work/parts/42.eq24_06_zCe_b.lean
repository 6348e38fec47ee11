theorem zCe_b {s : Int32} {own e : Int64} {m a : Int32} (hs : 1 ≤ s ∧ s ≤ 1000000) (h : m = (-1) ∨ (0 ≤ e.toInt ∧ e.toInt ≤ 1000000000)) : 0 ≤ (zCe s.toInt64 m a own e).toInt ∧ (zCe s.toInt64 m a own e).toInt ≤ 2000000000 := by
  have hh := zhf_b hs
  unfold zCe
  by_cases c : m = (-1)
  · rw [if_pos c]
    by_cases d : a.toInt64 - a.toInt64 / s.toInt64 * s.toInt64 = 0
    · rw [if_pos d, zl0]; omega
    · rw [if_neg d]; omega
  · rw [if_neg c]
    have h := h.resolve_left c
    by_cases d : own - own / s.toInt64 * s.toInt64 = 0
    · rw [if_pos d]; omega
    · rw [if_neg d]
      have := zoL_add (x := e) (y := s.toInt64 / 2) rfl rfl rfl (by omega)
      omega
