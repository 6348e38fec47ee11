theorem zMt_v {g : Nat → Int32} {s e k len : Nat} (hlen : len ≤ 6) (ht : ∀ i : Nat, i < len → 1 ≤ (zTab (k + i)).toInt ∧ (zTab (k + i)).toInt ≤ 26) (hz : zTab (k + len) = 0) (hk : k + len < 71) (hse : s ≤ e) (hl : ∀ i : Nat, i < e - s → 97 ≤ (g (s + i)).toInt ∧ (g (s + i)).toInt ≤ 122) : zMt g s e k ↔ e - s ≤ 6 ∧ zCV (zLV g s (e - s)) = zCV (zTL k len) := by
  have hnz : ∀ i : Nat, i < len → ¬ zTab (k + i) = 0 := by
    intro i hi q
    have := (ht i hi).1
    rw [q] at this
    exact absurd this (by decide)
  have h96 : (96 : Int32).toInt = 96 := by decide +kernel
  constructor
  · intro ⟨m, w1, w2, w3, w4⟩
    have hm : m = len := by
      by_cases c : m < len
      · exact absurd w2 (hnz m c)
      · by_cases d : len < m
        · exact absurd hz (w4 len d).2
        · omega
    subst hm
    have hm2 : e - s = m := by omega
    refine ⟨by omega, ?_⟩
    have : zLV g s (e - s) = zTL k m := by
      funext i
      unfold zLV zTL
      rw [hm2]
      split
      · have q := (w4 i (by assumption)).1
        have q2 := hl i (by omega)
        rw [← q]
        have q3 := zo_sub (x := g (s + i)) (y := 96) (z := g (s + i) - 96) rfl rfl h96 (by omega)
        omega
      · rfl
    rw [this]
  · intro ⟨w1, w2⟩
    have hi := zCV_inj w2 (zLV_b hl) (zTL_b ht)
    have hm : e - s = len := by
      by_cases c : e - s < len
      · have := hi (e - s) (by omega)
        unfold zLV zTL at this
        rw [if_neg (by omega), if_pos c] at this
        have := ht _ c
        omega
      · by_cases d : len < e - s
        · have := hi len (by omega)
          unfold zLV zTL at this
          rw [if_pos d, if_neg (by omega)] at this
          have := hl _ d
          omega
        · omega
    refine ⟨len, hk, hz, by omega, fun j hj => ⟨?_, hnz j hj⟩⟩
    have q := hi j (by omega)
    unfold zLV zTL at q
    rw [if_pos (by omega), if_pos hj] at q
    have q2 := hl j (by omega)
    have q3 := zo_sub (x := g (s + j)) (y := 96) (z := g (s + j) - 96) rfl rfl h96 (by omega)
    apply Int32.toInt_inj.mp
    omega
