set_option maxHeartbeats 1000000 in
theorem zOwnL {v0_6 v0_7 : Int32} {f1 f2 : Nat → Int32} (h_v0_6 : 0 ≤ v0_6 ∧ v0_6 ≤ 1200) (h_v0_7 : 0 ≤ v0_7 ∧ v0_7 ≤ 1200) (hT : (∀ k : Nat, k < 71 → f1 k = zTab k)) : zw (fn_X12_own v0_6 v0_7 f1 f2) (fun r => r = (-1) ∧ (∀ n k : Int32, zPair n k → 0 ≤ n → n ≤ 12 → ¬ zMt f2 v0_7.toNatClampNeg v0_6.toNatClampNeg k.toNatClampNeg) ∨ 0 ≤ r ∧ r ≤ 12 ∧ (∃ k : Int32, zPair r k ∧ zMt f2 v0_7.toNatClampNeg v0_6.toNatClampNeg k.toNatClampNeg)) := by
  obtain ⟨b6a, b6b⟩ := zi_b z1200 h_v0_6.1 h_v0_6.2
  obtain ⟨b7a, b7b⟩ := zi_b z1200 h_v0_7.1 h_v0_7.2
  unfold fn_X12_own
  refine zw_zl32 (fun s_1 => zPair s_1.2 s_1.1 ∧ 0 ≤ s_1.2 ∧ s_1.2 ≤ 13 ∧ (∀ n k : Int32, zPair n k → 0 ≤ n → n < s_1.2 → ¬ zMt f2 v0_7.toNatClampNeg v0_6.toNatClampNeg k.toNatClampNeg)) (fun s_1 => 13 - s_1.2) (by dsimp only; exact ⟨Or.inl ⟨rfl, rfl⟩, by decide, by decide, fun n k _ h1 h2 => by grind⟩) (by (try dsimp only); decide) (fun s_1 back_1 H1 h1 => ?_)
  obtain ⟨kk, nn⟩ := s_1
  dsimp only at H1 h1 ⊢
  obtain ⟨hpair, hn0, hn1, hno⟩ := H1
  refine zw_if (fun c1 => ?_) (fun c1 => ?_)
  · exact zw_some (Or.inl ⟨rfl, fun n k hp a b => hno n k hp a (by grind)⟩)
  obtain ⟨e, he0, he1, he2, he3, he4, he5⟩ := zTabW f1 hT nn kk hpair (by grind)
  obtain ⟨bk1, bk2⟩ := zi_b (x := kk) z70 he0 (by grind)
  have huniq : ∀ k : Int32, zPair nn k → k = kk := by
    intro k hk
    exact zPair_un hk hpair
  refine zw_zl32 (fun s_3 => 0 ≤ s_3 ∧ kk + s_3 ≤ e ∧ s_3 ≤ 70 ∧ (∀ j : Nat, (j : Int) < s_3.toInt → f2 (v0_7.toNatClampNeg + j) - 96 = zTab (kk.toNatClampNeg + j) ∧ ¬ zTab (kk.toNatClampNeg + j) = 0)) (fun s_3 => e - (kk + s_3)) ⟨by decide, by grind, by decide, fun j hj => by rw [zi_0] at hj; omega⟩ (by (try dsimp only); grind) (fun s_3 back_3 H3 h3 => ?_)
  obtain ⟨m0, m1, m2, m3⟩ := H3
  obtain ⟨bm1, bm2⟩ := zi_b (x := s_3) z70 m0 m2
  have hsum : kk.toInt + s_3.toInt ≤ 70 := by
    have q1 := zo_add (x := kk) (y := s_3) (z := kk + s_3) rfl rfl rfl (by omega)
    have q2 := Int32.le_iff_toInt_le.mp m1
    have q3 := Int32.le_iff_toInt_le.mp he2
    rw [z70] at q3
    omega
  obtain ⟨ks1, ks2⟩ := zAdd2 (x := kk) (y := s_3) bk1 bm1 hsum (by omega)
  obtain ⟨vs1, vs2⟩ := zAdd2 (x := v0_7) (y := s_3) (n := 1270) b7a bm1 (by omega) (by omega)
  have hks : f1 (kk + s_3).toNatClampNeg = zTab (kk.toNatClampNeg + s_3.toNatClampNeg) := by
    rw [ks2]
    refine hT _ ?_
    show kk.toInt.toNat + s_3.toInt.toNat < 71
    omega
  have hms : (s_3.toNatClampNeg : Int) = s_3.toInt := by
    show ((s_3.toInt.toNat : Nat) : Int) = _
    omega
  -- a loop that passes over the rest of this word
  have J : (¬ zMt f2 v0_7.toNatClampNeg v0_6.toNatClampNeg kk.toNatClampNeg) → zw (zl (fun (s_8 : Int32) back_8 => (zg s_8 71 (if (f1 s_8.toNatClampNeg) = 0 then (back_1 ((s_8 + 1), (nn + 1))) else (back_8 (s_8 + 1))))) 100000 kk) (fun r => r = (-1) ∧ (∀ n k : Int32, zPair n k → 0 ≤ n → n ≤ 12 → ¬ zMt f2 v0_7.toNatClampNeg v0_6.toNatClampNeg k.toNatClampNeg) ∨ 0 ≤ r ∧ r ≤ 12 ∧ (∃ k : Int32, zPair r k ∧ zMt f2 v0_7.toNatClampNeg v0_6.toNatClampNeg k.toNatClampNeg)) := by
    intro hnm
    refine zw_zl32 (fun s_8 => kk ≤ s_8 ∧ s_8 ≤ e) (fun s_8 => e - s_8) (by (try dsimp only); grind) (by (try dsimp only); grind) (fun s_8 back_8 H8 h8 => ?_)
    refine zw_zg32 71 (by decide) (by grind) ?_
    refine zw_if (fun c2 => ?_) (fun c2 => ?_)
    · have hq : s_8 = e := by grind
      rw [hq]
      refine h1 _ ⟨he5, by (try dsimp only); grind, by (try dsimp only); grind, fun n k hp a b => ?_⟩ (by (try dsimp only); grind) (by (try dsimp only); grind)
      by_cases q : n = nn
      · rw [q] at hp
        rw [huniq k hp]
        exact hnm
      · exact hno n k hp a (by dsimp only at b; grind)
    · have hq : ¬ s_8 = e := by intro hq; rw [hq] at c2; exact c2 he3
      exact h8 _ (by grind) (by grind) (by grind)
  refine zw_zg32 71 (by decide) (by grind) ?_
  refine zw_zj (fun _ => zTab (kk.toNatClampNeg + s_3.toNatClampNeg) = 0 ∨ v0_6.toNatClampNeg ≤ v0_7.toNatClampNeg + s_3.toNatClampNeg ∨ ¬ f2 (v0_7.toNatClampNeg + s_3.toNatClampNeg) - 96 = zTab (kk.toNatClampNeg + s_3.toNatClampNeg)) (fun s_5 hs5 => ?_) (fun j_5 hj5 => ?_)
  · refine zw_zg32 71 (by decide) (by grind) ?_
    have hex : ¬ (zTab (kk.toNatClampNeg + s_3.toNatClampNeg) = 0 ∧ v0_7.toNatClampNeg + s_3.toNatClampNeg = v0_6.toNatClampNeg) → ¬ zMt f2 v0_7.toNatClampNeg v0_6.toNatClampNeg kk.toNatClampNeg := by
      intro hq ⟨m, w1, w2, w3, w4⟩
      by_cases d1 : m < s_3.toNatClampNeg
      · exact (m3 m (by omega)).2 w2
      · by_cases d2 : m = s_3.toNatClampNeg
        · rw [d2] at w2 w3
          exact hq ⟨w2, w3⟩
        · have w5 := w4 s_3.toNatClampNeg (by omega)
          rcases hs5 with q | q | q
          · exact w5.2 q
          · omega
          · exact q w5.1
    refine zw_zj (fun _ => ¬ zMt f2 v0_7.toNatClampNeg v0_6.toNatClampNeg kk.toNatClampNeg) (fun s_7 hs7 => J hs7) (fun j_7 hj7 => ?_)
    refine zw_if (fun c3 => ?_) (fun c3 => hj7 _ (hex (fun q => c3 (hks.trans q.1))))
    refine zw_if (fun c4 => ?_) (fun c4 => hj7 _ (hex (fun q => c4 ?_)))
    · refine zw_some (Or.inr ⟨hn0, by grind, kk, hpair, s_3.toNatClampNeg, ?_, hks.symm.trans c3, ?_, fun j hj => m3 j (by omega)⟩)
      · show kk.toInt.toNat + s_3.toInt.toNat < 71
        omega
      · rw [← vs2, c4]
    · apply Int32.toInt_inj.mp
      have := q.2
      have w1 : ((v0_6.toNatClampNeg : Nat) : Int) = v0_6.toInt := by
        show ((v0_6.toInt.toNat : Nat) : Int) = _
        omega
      have w2 : ((v0_7.toNatClampNeg : Nat) : Int) = v0_7.toInt := by
        show ((v0_7.toInt.toNat : Nat) : Int) = _
        omega
      omega
  refine zw_if (fun c3 => hj5 _ (Or.inl (hks.symm.trans c3))) (fun c3 => ?_)
  refine zw_if (fun c4 => hj5 _ (Or.inr (Or.inl ?_))) (fun c4 => ?_)
  · have := Int32.le_iff_toInt_le.mp c4
    show v0_6.toInt.toNat ≤ v0_7.toInt.toNat + s_3.toInt.toNat
    omega
  refine zw_zg32 1200 (by decide) (by grind) ?_
  rw [hks, vs2]
  refine zw_if (fun c5 => ?_) (fun c5 => hj5 _ (Or.inr (Or.inr c5)))
  have hq : ¬ kk + s_3 = e := by intro hq; rw [hq] at c3; exact c3 he3
  refine h3 _ ⟨by grind, by grind, by grind, fun j hj => ?_⟩ (by grind) (by grind)
  have e1 := zo_add (x := s_3) (y := 1) (z := s_3 + 1) rfl rfl zi_1' (by omega)
  rw [e1] at hj
  by_cases q : (j : Int) < s_3.toInt
  · exact m3 j q
  · have : j = s_3.toNatClampNeg := by omega
    rw [this]
    exact ⟨c5, fun q => c3 (hks.trans q)⟩
/-! a word is an own word just when its number is -/
