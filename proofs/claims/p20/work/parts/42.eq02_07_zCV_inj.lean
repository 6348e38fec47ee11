theorem zCV_inj {l m : Nat → Int} (h : zCV l = zCV m) (h1 : ∀ i : Nat, 0 ≤ l i ∧ l i < 32) (h2 : ∀ i : Nat, 0 ≤ m i ∧ m i < 32) (i : Nat) (hi : i < 6) : l i = m i := by
  unfold zCV at h
  have a0 := h1 0
  have a1 := h1 1
  have a2 := h1 2
  have a3 := h1 3
  have a4 := h1 4
  have a5 := h1 5
  have b0 := h2 0
  have b1 := h2 1
  have b2 := h2 2
  have b3 := h2 3
  have b4 := h2 4
  have b5 := h2 5
  match i, hi with
  | 0, _ => omega
  | 1, _ => omega
  | 2, _ => omega
  | 3, _ => omega
  | 4, _ => omega
  | 5, _ => omega
