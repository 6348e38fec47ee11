/-! the reference's own words: a match with the table, from place k on -/
noncomputable def zMt (g : Nat → Int32) (s e k : Nat) : Prop := ∃ m : Nat, k + m < 71 ∧ zTab (k + m) = 0 ∧ s + m = e ∧ (∀ j : Nat, j < m → g (s + j) - 96 = zTab (k + j) ∧ ¬ zTab (k + j) = 0)
theorem zPair_un {n k k' : Int32} (h : zPair n k) (h' : zPair n k') : k = k' := by
  unfold zPair at h h'
  rcases h with ⟨a, e⟩ | ⟨a, e⟩ | ⟨a, e⟩ | ⟨a, e⟩ | ⟨a, e⟩ | ⟨a, e⟩ | ⟨a, e⟩ | ⟨a, e⟩ | ⟨a, e⟩ | ⟨a, e⟩ | ⟨a, e⟩ | ⟨a, e⟩ | ⟨a, e⟩ | ⟨a, e⟩ <;> (subst a; subst e; rcases h' with ⟨a, e⟩ | ⟨a, e⟩ | ⟨a, e⟩ | ⟨a, e⟩ | ⟨a, e⟩ | ⟨a, e⟩ | ⟨a, e⟩ | ⟨a, e⟩ | ⟨a, e⟩ | ⟨a, e⟩ | ⟨a, e⟩ | ⟨a, e⟩ | ⟨a, e⟩ | ⟨a, e⟩ <;> first | exact e.symm | exact absurd a (by decide))
theorem zAdd2 {x y : Int32} {n : Int} (hx : 0 ≤ x.toInt) (hy : 0 ≤ y.toInt) (hn : x.toInt + y.toInt ≤ n) (h : n ≤ 100000) : (x + y).toInt = x.toInt + y.toInt ∧ (x + y).toNatClampNeg = x.toNatClampNeg + y.toNatClampNeg := by
  have e := zo_add (x := x) (y := y) (z := x + y) rfl rfl rfl (by omega)
  refine ⟨e, ?_⟩
  show (x + y).toInt.toNat = x.toInt.toNat + y.toInt.toNat
  omega
theorem zi_b {x c : Int32} {n : Int} (hc : c.toInt = n) (h0 : 0 ≤ x) (h1 : x ≤ c) : 0 ≤ x.toInt ∧ x.toInt ≤ n := by
  have a := Int32.le_iff_toInt_le.mp h0
  have b := Int32.le_iff_toInt_le.mp h1
  rw [zi_0] at a
  omega
theorem z1200 : (1200 : Int32).toInt = 1200 := by decide +kernel
theorem z70 : (70 : Int32).toInt = 70 := by decide +kernel
set_option maxHeartbeats 1000000 in
theorem zOwnL {v0_6 v0_7 : Int32} {f1 f2 : Nat → Int32} (h_v0_6 : 0 ≤ v0_6 ∧ v0_6 ≤ 1200) (h_v0_7 : 0 ≤ v0_7 ∧ v0_7 ≤ 1200) (hT : (∀ k : Nat, k < 71 → f1 k = zTab k)) : zw (fn_X12_own v0_6 v0_7 f1 f2) (fun r => r = (-1) ∧ (∀ n k : Int32, zPair n k → 0 ≤ n → n ≤ 12 → ¬ zMt f2 v0_7.toNatClampNeg v0_6.toNatClampNeg k.toNatClampNeg) ∨ 0 ≤ r ∧ r ≤ 12 ∧ (∃ k : Int32, zPair r k ∧ zMt f2 v0_7.toNatClampNeg v0_6.toNatClampNeg k.toNatClampNeg)) := by
  obtain ⟨b6a, b6b⟩ := zi_b z1200 h_v0_6.1 h_v0_6.2
  obtain ⟨b7a, b7b⟩ := zi_b z1200 h_v0_7.1 h_v0_7.2
  unfold fn_X12_own
  refine zw_zl32 (fun s_1 => zPair s_1.2 s_1.1 ∧ 0 ≤ s_1.2 ∧ s_1.2 ≤ 13 ∧ (∀ n k : Int32, zPair n k → 0 ≤ n → n < s_1.2 → ¬ zMt f2 v0_7.toNatClampNeg v0_6.toNatClampNeg k.toNatClampNeg)) (fun s_1 => 13 - s_1.2) (by dsimp only; exact ⟨Or.inl ⟨rfl, rfl⟩, by decide, by decide, fun n k _ h1 h2 => by grind⟩) (by (try dsimp only); decide) (fun s_1 back_1 H1 h1 => ?_)
  obtain ⟨kk, nn⟩ := s_1
  dsimp only at H1 h1 ⊢
  obtain ⟨hpair, hn0, hn1, hno⟩ := H1
  refine zw_if (fun c1 => ?_) (fun c1 => ?_)
  · exact zw_some (Or.inl ⟨rfl, fun n k hp a b => hno n k hp a (by grind)⟩)
  obtain ⟨e, he0, he1, he2, he3, he4, he5⟩ := zTabW f1 hT nn kk hpair (by grind)
  obtain ⟨bk1, bk2⟩ := zi_b (x := kk) z70 he0 (by grind)
  have huniq : ∀ k : Int32, zPair nn k → k = kk := by
    intro k hk
    exact zPair_un hk hpair
  refine zw_zl32 (fun s_3 => 0 ≤ s_3 ∧ kk + s_3 ≤ e ∧ s_3 ≤ 70 ∧ (∀ j : Nat, (j : Int) < s_3.toInt → f2 (v0_7.toNatClampNeg + j) - 96 = zTab (kk.toNatClampNeg + j) ∧ ¬ zTab (kk.toNatClampNeg + j) = 0)) (fun s_3 => e - (kk + s_3)) ⟨by decide, by grind, by decide, fun j hj => by rw [zi_0] at hj; omega⟩ (by (try dsimp only); grind) (fun s_3 back_3 H3 h3 => ?_)
  obtain ⟨m0, m1, m2, m3⟩ := H3
  obtain ⟨bm1, bm2⟩ := zi_b (x := s_3) z70 m0 m2
  have hsum : kk.toInt + s_3.toInt ≤ 70 := by
    have q1 := zo_add (x := kk) (y := s_3) (z := kk + s_3) rfl rfl rfl (by omega)
    have q2 := Int32.le_iff_toInt_le.mp m1
    have q3 := Int32.le_iff_toInt_le.mp he2
    rw [z70] at q3
    omega
  obtain ⟨ks1, ks2⟩ := zAdd2 (x := kk) (y := s_3) bk1 bm1 hsum (by omega)
  obtain ⟨vs1, vs2⟩ := zAdd2 (x := v0_7) (y := s_3) (n := 1270) b7a bm1 (by omega) (by omega)
  have hks : f1 (kk + s_3).toNatClampNeg = zTab (kk.toNatClampNeg + s_3.toNatClampNeg) := by
    rw [ks2]
    refine hT _ ?_
    show kk.toInt.toNat + s_3.toInt.toNat < 71
    omega
  have hms : (s_3.toNatClampNeg : Int) = s_3.toInt := by
    show ((s_3.toInt.toNat : Nat) : Int) = _
    omega
  -- a loop that passes over the rest of this word
  have J : (¬ zMt f2 v0_7.toNatClampNeg v0_6.toNatClampNeg kk.toNatClampNeg) → zw (zl (fun (s_8 : Int32) back_8 => (zg s_8 71 (if (f1 s_8.toNatClampNeg) = 0 then (back_1 ((s_8 + 1), (nn + 1))) else (back_8 (s_8 + 1))))) 100000 kk) (fun r => r = (-1) ∧ (∀ n k : Int32, zPair n k → 0 ≤ n → n ≤ 12 → ¬ zMt f2 v0_7.toNatClampNeg v0_6.toNatClampNeg k.toNatClampNeg) ∨ 0 ≤ r ∧ r ≤ 12 ∧ (∃ k : Int32, zPair r k ∧ zMt f2 v0_7.toNatClampNeg v0_6.toNatClampNeg k.toNatClampNeg)) := by
    intro hnm
    refine zw_zl32 (fun s_8 => kk ≤ s_8 ∧ s_8 ≤ e) (fun s_8 => e - s_8) (by (try dsimp only); grind) (by (try dsimp only); grind) (fun s_8 back_8 H8 h8 => ?_)
    refine zw_zg32 71 (by decide) (by grind) ?_
    refine zw_if (fun c2 => ?_) (fun c2 => ?_)
    · have hq : s_8 = e := by grind
      rw [hq]
      refine h1 _ ⟨he5, by (try dsimp only); grind, by (try dsimp only); grind, fun n k hp a b => ?_⟩ (by (try dsimp only); grind) (by (try dsimp only); grind)
      by_cases q : n = nn
      · rw [q] at hp
        rw [huniq k hp]
        exact hnm
      · exact hno n k hp a (by dsimp only at b; grind)
    · have hq : ¬ s_8 = e := by intro hq; rw [hq] at c2; exact c2 he3
      exact h8 _ (by grind) (by grind) (by grind)
  refine zw_zg32 71 (by decide) (by grind) ?_
  refine zw_zj (fun _ => zTab (kk.toNatClampNeg + s_3.toNatClampNeg) = 0 ∨ v0_6.toNatClampNeg ≤ v0_7.toNatClampNeg + s_3.toNatClampNeg ∨ ¬ f2 (v0_7.toNatClampNeg + s_3.toNatClampNeg) - 96 = zTab (kk.toNatClampNeg + s_3.toNatClampNeg)) (fun s_5 hs5 => ?_) (fun j_5 hj5 => ?_)
  · refine zw_zg32 71 (by decide) (by grind) ?_
    have hex : ¬ (zTab (kk.toNatClampNeg + s_3.toNatClampNeg) = 0 ∧ v0_7.toNatClampNeg + s_3.toNatClampNeg = v0_6.toNatClampNeg) → ¬ zMt f2 v0_7.toNatClampNeg v0_6.toNatClampNeg kk.toNatClampNeg := by
      intro hq ⟨m, w1, w2, w3, w4⟩
      by_cases d1 : m < s_3.toNatClampNeg
      · exact (m3 m (by omega)).2 w2
      · by_cases d2 : m = s_3.toNatClampNeg
        · rw [d2] at w2 w3
          exact hq ⟨w2, w3⟩
        · have w5 := w4 s_3.toNatClampNeg (by omega)
          rcases hs5 with q | q | q
          · exact w5.2 q
          · omega
          · exact q w5.1
    refine zw_zj (fun _ => ¬ zMt f2 v0_7.toNatClampNeg v0_6.toNatClampNeg kk.toNatClampNeg) (fun s_7 hs7 => J hs7) (fun j_7 hj7 => ?_)
    refine zw_if (fun c3 => ?_) (fun c3 => hj7 _ (hex (fun q => c3 (hks.trans q.1))))
    refine zw_if (fun c4 => ?_) (fun c4 => hj7 _ (hex (fun q => c4 ?_)))
    · refine zw_some (Or.inr ⟨hn0, by grind, kk, hpair, s_3.toNatClampNeg, ?_, hks.symm.trans c3, ?_, fun j hj => m3 j (by omega)⟩)
      · show kk.toInt.toNat + s_3.toInt.toNat < 71
        omega
      · rw [← vs2, c4]
    · apply Int32.toInt_inj.mp
      have := q.2
      have w1 : ((v0_6.toNatClampNeg : Nat) : Int) = v0_6.toInt := by
        show ((v0_6.toInt.toNat : Nat) : Int) = _
        omega
      have w2 : ((v0_7.toNatClampNeg : Nat) : Int) = v0_7.toInt := by
        show ((v0_7.toInt.toNat : Nat) : Int) = _
        omega
      omega
  refine zw_if (fun c3 => hj5 _ (Or.inl (hks.symm.trans c3))) (fun c3 => ?_)
  refine zw_if (fun c4 => hj5 _ (Or.inr (Or.inl ?_))) (fun c4 => ?_)
  · have := Int32.le_iff_toInt_le.mp c4
    show v0_6.toInt.toNat ≤ v0_7.toInt.toNat + s_3.toInt.toNat
    omega
  refine zw_zg32 1200 (by decide) (by grind) ?_
  rw [hks, vs2]
  refine zw_if (fun c5 => ?_) (fun c5 => hj5 _ (Or.inr (Or.inr c5)))
  have hq : ¬ kk + s_3 = e := by intro hq; rw [hq] at c3; exact c3 he3
  refine h3 _ ⟨by grind, by grind, by grind, fun j hj => ?_⟩ (by grind) (by grind)
  have e1 := zo_add (x := s_3) (y := 1) (z := s_3 + 1) rfl rfl zi_1' (by omega)
  rw [e1] at hj
  by_cases q : (j : Int) < s_3.toInt
  · exact m3 j q
  · have : j = s_3.toNatClampNeg := by omega
    rw [this]
    exact ⟨c5, fun q => c3 (hks.trans q)⟩
/-! a word is an own word just when its number is -/
theorem zCV_inj {l m : Nat → Int} (h : zCV l = zCV m) (h1 : ∀ i : Nat, 0 ≤ l i ∧ l i < 32) (h2 : ∀ i : Nat, 0 ≤ m i ∧ m i < 32) (i : Nat) (hi : i < 6) : l i = m i := by
  unfold zCV at h
  have a0 := h1 0
  have a1 := h1 1
  have a2 := h1 2
  have a3 := h1 3
  have a4 := h1 4
  have a5 := h1 5
  have b0 := h2 0
  have b1 := h2 1
  have b2 := h2 2
  have b3 := h2 3
  have b4 := h2 4
  have b5 := h2 5
  match i, hi with
  | 0, _ => omega
  | 1, _ => omega
  | 2, _ => omega
  | 3, _ => omega
  | 4, _ => omega
  | 5, _ => omega
noncomputable def zTL (k len i : Nat) : Int := if i < len then (zTab (k + i)).toInt else 0
theorem zLV_b {g : Nat → Int32} {s K : Nat} (hl : ∀ i : Nat, i < K → 97 ≤ (g (s + i)).toInt ∧ (g (s + i)).toInt ≤ 122) (i : Nat) : 0 ≤ zLV g s K i ∧ zLV g s K i < 32 := by
  unfold zLV
  split
  · have := hl i (by assumption)
    omega
  · omega
theorem zTL_b {k len : Nat} (h : ∀ i : Nat, i < len → 1 ≤ (zTab (k + i)).toInt ∧ (zTab (k + i)).toInt ≤ 26) (i : Nat) : 0 ≤ zTL k len i ∧ zTL k len i < 32 := by
  unfold zTL
  split
  · have := h i (by assumption)
    omega
  · omega
theorem zMt_v {g : Nat → Int32} {s e k len : Nat} (hlen : len ≤ 6) (ht : ∀ i : Nat, i < len → 1 ≤ (zTab (k + i)).toInt ∧ (zTab (k + i)).toInt ≤ 26) (hz : zTab (k + len) = 0) (hk : k + len < 71) (hse : s ≤ e) (hl : ∀ i : Nat, i < e - s → 97 ≤ (g (s + i)).toInt ∧ (g (s + i)).toInt ≤ 122) : zMt g s e k ↔ e - s ≤ 6 ∧ zCV (zLV g s (e - s)) = zCV (zTL k len) := by
  have hnz : ∀ i : Nat, i < len → ¬ zTab (k + i) = 0 := by
    intro i hi q
    have := (ht i hi).1
    rw [q] at this
    exact absurd this (by decide)
  have h96 : (96 : Int32).toInt = 96 := by decide +kernel
  constructor
  · intro ⟨m, w1, w2, w3, w4⟩
    have hm : m = len := by
      by_cases c : m < len
      · exact absurd w2 (hnz m c)
      · by_cases d : len < m
        · exact absurd hz (w4 len d).2
        · omega
    subst hm
    have hm2 : e - s = m := by omega
    refine ⟨by omega, ?_⟩
    have : zLV g s (e - s) = zTL k m := by
      funext i
      unfold zLV zTL
      rw [hm2]
      split
      · have q := (w4 i (by assumption)).1
        have q2 := hl i (by omega)
        rw [← q]
        have q3 := zo_sub (x := g (s + i)) (y := 96) (z := g (s + i) - 96) rfl rfl h96 (by omega)
        omega
      · rfl
    rw [this]
  · intro ⟨w1, w2⟩
    have hi := zCV_inj w2 (zLV_b hl) (zTL_b ht)
    have hm : e - s = len := by
      by_cases c : e - s < len
      · have := hi (e - s) (by omega)
        unfold zLV zTL at this
        rw [if_neg (by omega), if_pos c] at this
        have := ht _ c
        omega
      · by_cases d : len < e - s
        · have := hi len (by omega)
          unfold zLV zTL at this
          rw [if_pos d, if_neg (by omega)] at this
          have := hl _ d
          omega
        · omega
    refine ⟨len, hk, hz, by omega, fun j hj => ⟨?_, hnz j hj⟩⟩
    have q := hi j (by omega)
    unfold zLV zTL at q
    rw [if_pos (by omega), if_pos hj] at q
    have q2 := hl j (by omega)
    have q3 := zo_sub (x := g (s + j)) (y := 96) (z := g (s + j) - 96) rfl rfl h96 (by omega)
    apply Int32.toInt_inj.mp
    omega
noncomputable def zLenT (n : Nat) : Nat := ([6, 4, 4, 4, 4, 5, 3, 3, 3, 5, 5, 6, 6] : List Nat).getD n 0
noncomputable def zStT (n : Nat) : Nat := ([0, 7, 12, 17, 22, 27, 33, 37, 41, 45, 51, 57, 64] : List Nat).getD n 0
theorem zTabOk : ∀ n : Nat, n < 13 → zLenT n ≤ 6 ∧ zTab (zStT n + zLenT n) = 0 ∧ zStT n + zLenT n < 71 ∧ (∀ i : Nat, i < 6 → i < zLenT n → 1 ≤ (zTab (zStT n + i)).toInt ∧ (zTab (zStT n + i)).toInt ≤ 26) ∧ (zOwT n).toInt = zCV (zTL (zStT n) (zLenT n)) := by decide +kernel
theorem zPair_n {n k : Int32} (h : zPair n k) (h0 : 0 ≤ n) (h1 : n ≤ 12) : n.toNatClampNeg < 13 ∧ k.toNatClampNeg = zStT n.toNatClampNeg := by
  unfold zPair at h
  rcases h with ⟨rfl, rfl⟩ | ⟨rfl, rfl⟩ | ⟨rfl, rfl⟩ | ⟨rfl, rfl⟩ | ⟨rfl, rfl⟩ | ⟨rfl, rfl⟩ | ⟨rfl, rfl⟩ | ⟨rfl, rfl⟩ | ⟨rfl, rfl⟩ | ⟨rfl, rfl⟩ | ⟨rfl, rfl⟩ | ⟨rfl, rfl⟩ | ⟨rfl, rfl⟩ | ⟨rfl, rfl⟩
  all_goals first | decide +kernel | exact absurd h1 (by decide)
theorem zPair_of (w : Nat) (h : w < 13) : zPair (Int32.ofNat w) (Int32.ofNat (zStT w)) ∧ 0 ≤ Int32.ofNat w ∧ Int32.ofNat w ≤ 12 ∧ (Int32.ofNat (zStT w)).toNatClampNeg = zStT w := by
  unfold zPair
  match w, h with
  | 0, _ => decide +kernel
  | 1, _ => decide +kernel
  | 2, _ => decide +kernel
  | 3, _ => decide +kernel
  | 4, _ => decide +kernel
  | 5, _ => decide +kernel
  | 6, _ => decide +kernel
  | 7, _ => decide +kernel
  | 8, _ => decide +kernel
  | 9, _ => decide +kernel
  | 10, _ => decide +kernel
  | 11, _ => decide +kernel
  | 12, _ => decide +kernel
theorem zOwnM {e s : Int32} {tab g : Nat → Int32} (he : 0 ≤ e ∧ e ≤ 1200) (hs : 0 ≤ s ∧ s ≤ 1200) (hse : s ≤ e) (hT : (∀ k : Nat, k < 71 → tab k = zTab k)) (hl : ∀ i : Nat, i < zSz s e → zKd (g (s.toNatClampNeg + i)) = 1) : zw (fn_X12_own e s tab g) (fun r => (-1) ≤ r ∧ r ≤ 12 ∧ (6 < e - s → r = (-1)) ∧ (∀ v : Int32, e - s ≤ 6 → v.toInt = zCV (zLV g s.toNatClampNeg (zSz s e)) → zOwS v r)) := by
  obtain ⟨a1, a2, a3, a4, a5, a6⟩ := zAdN hs.1 hse he.2
  have hz : e.toNatClampNeg - s.toNatClampNeg = zSz s e := by unfold zSz; omega
  have h6 : e - s ≤ 6 ↔ zSz s e ≤ 6 := by
    rw [Int32.le_iff_toInt_le, show (6 : Int32).toInt = 6 by decide +kernel]
    unfold zSz
    omega
  have key : ∀ n : Nat, n < 13 → (zMt g s.toNatClampNeg e.toNatClampNeg (zStT n) ↔ zSz s e ≤ 6 ∧ zCV (zLV g s.toNatClampNeg (zSz s e)) = (zOwT n).toInt) := by
    intro n hn
    obtain ⟨t1, t2, t3, t4, t5⟩ := zTabOk n hn
    have := zMt_v (g := g) (s := s.toNatClampNeg) (e := e.toNatClampNeg) (k := zStT n) t1 (fun i hi => t4 i (by omega) hi) t2 t3 (by omega) (fun i hi => zKd1 (hl i (by omega)))
    rw [hz] at this
    rw [t5]
    exact this
  refine zw_mono (zOwnL he hs hT) (fun r hr => ?_)
  rcases hr with ⟨rfl, hr⟩ | ⟨r0, r1, k, hp, hm⟩
  · refine ⟨by decide, by decide, fun _ => rfl, fun v h1 h2 => Or.inl ⟨rfl, fun w hw q => ?_⟩⟩
    obtain ⟨p1, p2, p3, p4⟩ := zPair_of w hw
    refine hr _ _ p1 p2 p3 ?_
    rw [p4]
    exact (key w hw).mpr ⟨h6.mp h1, by rw [← h2, q]⟩
  · obtain ⟨p1, p2⟩ := zPair_n hp r0 r1
    rw [p2] at hm
    have hm2 := (key _ p1).mp hm
    refine ⟨by grind, r1, fun q => ?_, fun v h1 h2 => Or.inr ⟨r0, by grind, ?_⟩⟩
    · have := h6.mpr hm2.1
      grind
    · apply Int32.toInt_inj.mp
      rw [h2]
      exact hm2.2.symm
theorem zOwS_un {v o p : Int32} (h1 : zOwS v o) (h2 : zOwS v p) : o = p := by
  have hinj : ∀ w : Nat, w < 13 → ∀ x : Nat, x < 13 → zOwT w = zOwT x → w = x := by decide +kernel
  have hb : ∀ x : Int32, 0 ≤ x → x < 13 → x.toNatClampNeg < 13 := by
    intro x h0 h1
    have := zcl x 12 12 (by decide) (by grind)
    omega
  rcases h1 with ⟨a1, a2⟩ | ⟨a1, a2, a3⟩
  · rcases h2 with ⟨b1, b2⟩ | ⟨b1, b2, b3⟩
    · rw [a1, b1]
    · exact absurd b3 (a2 _ (hb _ b1 b2))
  · rcases h2 with ⟨b1, b2⟩ | ⟨b1, b2, b3⟩
    · exact absurd a3 (b2 _ (hb _ a1 a2))
    · exact zinj o p a1 b1 (hinj _ (hb _ a1 a2) _ (hb _ b1 b2) (a3.trans b3.symm))
