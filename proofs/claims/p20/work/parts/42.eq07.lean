theorem zg28 {ρ : Type} {p cN : Int32} (h0 : 0 ≤ p) (h1 : p < cN) (h2 : cN ≤ 14) (e : Option ρ) : zg (14 + p) 28 e = e := zg_in 28 (by decide +kernel) ⟨by lia, by lia⟩ e
/-! fixed, group, answer, cast -/
theorem zFix {i x cN : Int32} {fx : Nat → Int32} (hi : 0 ≤ i ∧ i < cN) (hc : cN ≤ 14) : fn_X4_fix i x cN fx = some (upd fx i.toNatClampNeg x) := by
  unfold fn_X4_fix
  rw [if_neg (by grind), if_neg (by grind), zg_in 14 (by decide +kernel) (by grind)]
theorem zAllow {i x cN : Int32} {fx : Nat → Int32} (hi : 0 ≤ i ∧ i < cN) (hc : cN ≤ 14) : fn_X4_allow i x cN fx = some (upd fx i.toNatClampNeg x) := by
  unfold fn_X4_allow
  rw [if_neg (by grind), if_neg (by grind), zg_in 14 (by decide +kernel) (by grind)]
set_option maxHeartbeats 2000000 in
theorem zFixed {n a e k s v o got fk fp bg wa cF cN : Int32} {f g own tab nF nN fx : Nat → Int32} {mF mNF mN mNN mX : Nat → Int32} (hn : n ≤ 1200) (ha : 0 ≤ a ∧ a ≤ n) (ht : zTp f g) (ho : ∀ w : Nat, w < 13 → own w = zOwT w) (hT : (∀ k : Nat, k < 71 → tab k = zTab k)) (T : zTok n f g a e k s v o) (hF : mF 1 = cF ∧ 0 ≤ cF ∧ cF ≤ 4) (hN : mN 1 = cN ∧ 0 ≤ cN ∧ cN ≤ 14) (hnf : zNR 4 cF nF mNF) (hnn : zNR 14 cN nN mNN) :
    zw (fn_X5_readFixed got fk fp cF n e k s v o cN nN f own nF fx) (fun r => zw (fn_X12_readsFixed n a bg 0 wa 1 g tab mN mNN mF mNF mX) (fun q =>
      (∃ g' e' k' s' v' o' z b' i x, r = (1, g', fk, fp, e', k', s', v', o', upd fx i.toNatClampNeg x) ∧ q = (z, b', 0, wa, upd mX (14 + i).toNatClampNeg x) ∧ (0 ≤ i ∧ i < cN) ∧ (0 ≤ x ∧ x < cF) ∧ zNext n f g z (e', k', s', v', o'))
      ∨ zStop r.1 r.2.2.1 r.2.2.2.1 q.2.2.1 q.2.2.2.1 ∧ q.2.2.2.2 = mX)) := by
  unfold fn_X5_readFixed fn_X12_readsFixed
  obtain ⟨p, hp, r1, hr1, q1, hq1, h1⟩ := zTold (got := got) (fk := fk) (fp := fp) (bg := bg) (wa := wa) hn ha ht ho hT T hN hnn
  simp only [hp, zb_some, hr1, hq1]
  rcases h1 with ⟨_, y1, rfl, p1, p2, rfl, ha1, T1⟩ | hst
  · dsimp only
    rw [if_neg (by decide)]
    obtain ⟨p', hp', hpf⟩ := zFindF (p := y1.2.2.2.1) (f1 := nF) hF.2
    obtain ⟨r2, hr2, h2⟩ := zRKnown (p := p') (got := p) (fk := fk) (fp := fp) hn ha1 ht ho T1
    obtain ⟨q2, hq2, h3⟩ := zNameM (bg := s) (wa := wa) hn ha1 T1 hT
    simp only [hp', zb_some, hr2, hq2]
    obtain ⟨m, q2⟩ := q2
    rcases h3 with ⟨c, hnm, q2e⟩ | ⟨c, _, q3, q4⟩
    · dsimp only at hnm q2e ⊢
      subst q2e
      dsimp only
      obtain ⟨x, hx, hxf⟩ := zFindFM (p := m) (f1 := mF) (f2 := mNF) (by rw [hF.1]; exact hF.2)
      rw [hF.1] at hxf
      have ex : p' = x := zFst_un hpf hxf (fun i i1 i2 => zNm_eq (hnf i i1 i2) hnm)
      subst ex
      simp only [zGw_0, zb_some, hx, zj, if_neg (show ¬ (1 : Int32) = 0 by decide)]
      rcases h2 with ⟨_, d, y2, rfl, ha2, T2⟩ | ⟨_, d, rfl⟩ | ⟨d, _⟩
      · dsimp only
        have hx0 : 0 ≤ p' ∧ p' < cF := by
          rcases hpf with ⟨w1, _⟩ | ⟨w1, w2, _⟩
          · exact absurd w1 d
          · exact ⟨w1, w2⟩
        rw [if_neg (by decide), if_neg d, zFix ⟨p1, p2⟩ hN.2.2]
        simp only [zb_some, zGw_0, fn_X12_n]
        rw [show (14 * 1 : Int32) = 14 by decide +kernel, zg28 p1 p2 hN.2.2]
        exact zw_some (zw_some (Or.inl ⟨_, _, _, _, _, _, _, _, p, p', rfl, rfl, ⟨p1, p2⟩, hx0, ha2, T2⟩))
      · dsimp only
        rw [if_pos rfl, if_pos d]
        simp only [zFl_0, zb_some, zGw_n (show ¬ (3 : Int32) = 0 by decide), if_true]
        exact zw_some (zw_some (Or.inr ⟨⟨rfl, show ¬ (3 : Int32) = 0 by decide, rfl, rfl⟩, rfl⟩))
      · exact absurd c d
    · obtain ⟨x2, x3, x4, x5⟩ := q2
      dsimp only at q3 q4 ⊢
      subst q3
      rcases h2 with ⟨d, _⟩ | ⟨d, _⟩ | ⟨_, rfl⟩
      · exact absurd d c
      · exact absurd d c
      · dsimp only
        rw [if_pos rfl]
        simp only [zb_some, zGw_n (show ¬ (1 : Int32) = 0 by decide), if_true, zj]
        exact zw_some (zw_some (Or.inr ⟨⟨rfl, show ¬ (1 : Int32) = 0 by decide, rfl, q4.symm⟩, rfl⟩))
  · obtain ⟨s1, s2, s3, s4⟩ := hst
    obtain ⟨x1, x2, x3, x4, x5⟩ := q1
    dsimp only at s2 s3 s4 ⊢
    rw [if_pos s1]
    simp only [zName_n s2, zGw_n s2, zb_some, if_true, zj]
    exact zw_some (zw_some (Or.inr ⟨⟨rfl, s2, s3, s4⟩, rfl⟩))
set_option maxHeartbeats 2000000 in
theorem zAnswer {n a e k s v o got fk fp bg wa cN : Int32} {f g own tab nN al : Nat → Int32} {mN mNN mW : Nat → Int32} (hn : n ≤ 1200) (ha : 0 ≤ a ∧ a ≤ n) (ht : zTp f g) (ho : ∀ w : Nat, w < 13 → own w = zOwT w) (hT : (∀ k : Nat, k < 71 → tab k = zTab k)) (T : zTok n f g a e k s v o) (hN : mN 1 = cN ∧ 0 ≤ cN ∧ cN ≤ 14) (hnn : zNR 14 cN nN mNN) :
    zw (fn_X5_readAnswer got fk fp n e k s v o cN nN f own al) (fun r => zw (fn_X12_readsAnswer n a bg 0 wa 1 g tab mN mNN mW) (fun q =>
      (∃ g' e' k' s' v' o' z b' i x, r = (1, g', fk, fp, e', k', s', v', o', upd al i.toNatClampNeg x) ∧ q = (z, b', 0, wa, upd mW (14 + i).toNatClampNeg x) ∧ (0 ≤ i ∧ i < cN) ∧ (0 ≤ x ∧ x ≤ 1000000) ∧ zNext n f g z (e', k', s', v', o'))
      ∨ zStop r.1 r.2.2.1 r.2.2.2.1 q.2.2.1 q.2.2.2.1 ∧ q.2.2.2.2 = mW)) := by
  unfold fn_X5_readAnswer fn_X12_readsAnswer
  obtain ⟨p, hp, r1, hr1, q1, hq1, h1⟩ := zTold (got := got) (fk := fk) (fp := fp) (bg := bg) (wa := wa) hn ha ht ho hT T hN hnn
  simp only [hp, zb_some, hr1, hq1]
  rcases h1 with ⟨_, y1, rfl, p1, p2, rfl, ha1, T1⟩ | hst
  · dsimp only
    rw [if_neg (by decide)]
    obtain ⟨r2, hr2, q2, hq2, h2⟩ := zMustR (w := 12) (fk := fk) (fp := fp) (bg := s) (wa := wa) hn ha1 ht ho hT T1 (by decide)
    simp only [hr2, hq2, zb_some]
    rcases h2 with ⟨y2, rfl, rfl, ha2, T2⟩ | hst
    · dsimp only
      rw [if_neg (by decide)]
      obtain ⟨r3, hr3, q3, hq3, h3⟩ := zNumR (lo := 0) (hi := 1000000) (lo64 := 0) (hi64 := 1000000) (got := p) (fk := fk) (fp := fp) (bg := y1.2.2.1) (wa := wa) (by decide +kernel) (by decide +kernel) hn ha2 ht ho T2
      simp only [hr3, hq3, zb_some]
      rcases h3 with ⟨y3, rfl, rfl, l3, u3, ha3, T3⟩ | hst
      · dsimp only
        rw [if_neg (by decide), zAllow ⟨p1, p2⟩ hN.2.2]
        simp only [zb_some, zGw_0, fn_X12_n]
        rw [if_neg (by decide), show (14 * 1 : Int32) = 14 by decide +kernel, zg_in 28 (by decide +kernel) (by grind), z64_32]
        exact zw_some (zw_some (Or.inl ⟨_, _, _, _, _, _, _, _, p, _, rfl, rfl, ⟨p1, p2⟩, ⟨l3, u3⟩, ha3, T3⟩))
      · obtain ⟨s1, s2, s3, s4⟩ := hst
        obtain ⟨x1, x2, x3, x4, x5⟩ := q3
        dsimp only at s2 s3 s4 ⊢
        rw [if_pos s1]
        simp only [zGw_n s2, zb_some, if_true]
        exact zw_some (zw_some (Or.inr ⟨⟨rfl, s2, s3, s4⟩, rfl⟩))
    · obtain ⟨s1, s2, s3, s4⟩ := hst
      obtain ⟨x2, x3, x4, x5⟩ := q2
      dsimp only at s2 s3 s4 ⊢
      rw [if_pos s1]
      simp only [zNum_n s2, zGw_n s2, zb_some, if_true]
      exact zw_some (zw_some (Or.inr ⟨⟨rfl, s2, s3, s4⟩, rfl⟩))
  · obtain ⟨s1, s2, s3, s4⟩ := hst
    obtain ⟨x1, x2, x3, x4, x5⟩ := q1
    dsimp only at s2 s3 s4 ⊢
    rw [if_pos s1]
    simp only [zMust_n s2, zNum_n s2, zGw_n s2, zb_some, if_true]
    exact zw_some (zw_some (Or.inr ⟨⟨rfl, s2, s3, s4⟩, rfl⟩))
/-- a class joined to another, as the class does it -/
theorem zJoin {i j cN : Int32} {jn : Nat → Int32} (hi : 0 ≤ i ∧ i < cN) (hj : 0 ≤ j ∧ j < cN) (hc : cN ≤ 14) : zw (fn_X4_join i j cN jn) (fun J => ∀ x : Int32, 0 ≤ x → x < cN → J x.toNatClampNeg = if jn x.toNatClampNeg = jn j.toNatClampNeg then jn i.toNatClampNeg else jn x.toNatClampNeg) := by
  unfold fn_X4_join
  rw [if_neg (by grind), if_neg (by grind), if_neg (by grind), if_pos hj.2]
  refine zw_zg32 14 (by decide) (by grind) ?_
  refine zw_zl32 (fun t => 0 ≤ t.1 ∧ t.1 ≤ cN ∧ (∀ x : Int32, 0 ≤ x → x < t.1 → t.2 x.toNatClampNeg = if jn x.toNatClampNeg = jn j.toNatClampNeg then jn i.toNatClampNeg else jn x.toNatClampNeg) ∧ (∀ x : Int32, t.1 ≤ x → x < cN → t.2 x.toNatClampNeg = jn x.toNatClampNeg)) (fun t => cN - t.1) ⟨by show (0 : Int32) ≤ 0; decide, by (try dsimp only); grind, fun x h1 h2 => by dsimp only at h2; grind, fun x _ _ => rfl⟩ (by (try dsimp only); grind) (fun t back H h => ?_)
  obtain ⟨p, J⟩ := t
  dsimp only at H h ⊢
  obtain ⟨H1, H2, H3, H4⟩ := H
  refine zw_if (fun c => zw_some (fun x h1 h2 => H3 x h1 (by grind))) (fun c => ?_)
  refine zw_zg32 14 (by decide) (by grind) ?_
  have hp := H4 p (by grind) (by grind)
  have hi' : J i.toNatClampNeg = jn i.toNatClampNeg := by
    by_cases q : i < p
    · rw [H3 i hi.1 q]
      split
      · rfl
      · rfl
    · exact H4 i (by grind) hi.2
  refine zw_if (fun d => ?_) (fun d => ?_)
  · refine zw_zg32 14 (by decide) (by grind) ?_
    refine h _ ⟨by (try dsimp only); grind, by (try dsimp only); grind, fun x h1 h2 => ?_, fun x h1 h2 => ?_⟩ (by (try dsimp only); grind) (by (try dsimp only); grind)
    · dsimp only at h2 ⊢
      by_cases q : x = p
      · rw [q, zu_at, if_pos rfl, hi', ← hp, if_pos d]
      · have hne : ¬ x.toNatClampNeg = p.toNatClampNeg := fun w => q (zinj x p h1 H1 w)
        rw [zu_at, if_neg hne]
        exact H3 x h1 (by grind)
    · dsimp only at h1 ⊢
      have hne : ¬ x.toNatClampNeg = p.toNatClampNeg := fun w => by
        have := zinj x p (by grind) H1 w
        grind
      rw [zu_at, if_neg hne]
      exact H4 x (by grind) h2
  · refine h _ ⟨by (try dsimp only); grind, by (try dsimp only); grind, fun x h1 h2 => ?_, fun x h1 h2 => ?_⟩ (by (try dsimp only); grind) (by (try dsimp only); grind)
    · dsimp only at h2 ⊢
      by_cases q : x = p
      · rw [q, hp, if_neg (by rw [← hp]; exact d)]
      · exact H3 x h1 (by grind)
    · dsimp only at h1 ⊢
      exact H4 x (by grind) h2
