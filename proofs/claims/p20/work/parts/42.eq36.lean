/-! BY HALVES: all parts with one FORMAT, then all FORMATS -/
theorem zAddP {a b n : Int32} {P Q : Nat → Int32} {x : Int32 × (Nat → Int32) × (Nat → Int32)} (hn : n < 28) (h : fn_X3_addPart a b n P Q = some x) : x = (n + 1, upd P n.toNatClampNeg a, upd Q n.toNatClampNeg b) := by
  unfold fn_X3_addPart at h
  rw [if_neg (Int32.not_le.mpr hn)] at h
  obtain ⟨-, h⟩ := zg_s h
  exact (Option.some.inj h).symm
/-- parts that wait: of both, apart from each other, of GROUPS that stand unchanged -/
noncomputable def zQu (a b : Int32) (P Q pf pt un cd : Nat → Int32) : Prop := (∀ j : Int32, a ≤ j → j < b → pf j.toNatClampNeg = P j.toNatClampNeg ∧ pt j.toNatClampNeg = P j.toNatClampNeg + Q j.toNatClampNeg) ∧ (∀ i j : Int32, a ≤ i → i < b → a ≤ j → j < b → ¬ i = j → pt i.toNatClampNeg ≤ pf j.toNatClampNeg ∨ pt j.toNatClampNeg ≤ pf i.toNatClampNeg) ∧ (∀ j k : Int32, a ≤ j → j < b → pf j.toNatClampNeg ≤ k → k < pt j.toNatClampNeg → cd (un k.toNatClampNeg).toNatClampNeg = 0)
theorem zQu_skip {a b : Int32} {P Q pf pt un cd : Nat → Int32} (ha : 0 ≤ a ∧ a < 100) (h : zQu a b P Q pf pt un cd) : zQu (a + 1) b P Q pf pt un cd := by
  have l : ∀ j : Int32, a + 1 ≤ j → a ≤ j := fun j q => zLe1 ha q
  exact ⟨fun j j0 j1 => h.1 j (l j j0) j1, fun i j i0 i1 j0 j1 => h.2.1 i j (l i i0) i1 (l j j0) j1, fun j k j0 j1 => h.2.2 j k (l j j0) j1⟩
theorem zap1 {a l q h : Int32} (h1 : 0 ≤ a) (h2 : 1 ≤ l) (h3 : a + l ≤ 14) (h0 : a ≤ 13 ∧ l ≤ 14) (hh : 0 ≤ h ∧ h ≤ l) (e : q = a + l) : a ≤ a + h ∧ a + h ≤ q ∧ a + l - a = l ∧ a + h + (l - h) = a + l := by grind
theorem zap2 {p q a b u v : Int32} (h : q ≤ a ∨ b ≤ p) (h1 : p ≤ u) (h2 : v ≤ q) : v ≤ a ∨ b ≤ u := by grind
set_option maxHeartbeats 1000000 in
theorem zQu_split {n a b h : Int32} {P Q pf pt un cd : Nat → Int32} (V : zHv n a b P Q) (hab : a < b) (hQ : 2 ≤ Q a.toNatClampNeg) (eh : h = Q a.toNatClampNeg / 2) (Z : zQu a b P Q pf pt un cd) (hb : 0 ≤ b ∧ b ≤ 25) : zQu (a + 1) (b + 2) (upd (upd P b.toNatClampNeg (P a.toNatClampNeg)) (b + 1).toNatClampNeg (P a.toNatClampNeg + h)) (upd (upd Q b.toNatClampNeg h) (b + 1).toNatClampNeg (Q a.toNatClampNeg - h)) (upd (upd pf b.toNatClampNeg (pf a.toNatClampNeg)) (b + 1).toNatClampNeg (pf a.toNatClampNeg + h)) (upd (upd pt b.toNatClampNeg (pf a.toNatClampNeg + h)) (b + 1).toNatClampNeg (pt a.toNatClampNeg)) un cd := by
  obtain ⟨g1, g2, g3, g4, g5, g6, g7, g8⟩ := zHv_get V (Int32.not_le.mpr hab)
  have hh := zhalf (Q a.toNatClampNeg) (Int32.le_trans (by decide) g6)
  rw [← eh] at hh
  obtain ⟨z1, z2⟩ := Z.1 a (Int32.le_refl a) hab
  obtain ⟨e1, e2, e3, e4⟩ := zap1 (q := pt a.toNatClampNeg) (h := h) g4 g6 g8 ⟨g5, g7⟩ ⟨hh.1, hh.2.1⟩ z2
  have b1 : 0 ≤ b + 1 ∧ ¬ b + 1 = b ∧ 0 ≤ a + 1 := zBx1 hb g1 hab
  have sp : ∀ j : Int32, a + 1 ≤ j → j < b + 2 → 0 ≤ j ∧ (j = b ∨ j = b + 1 ∨ (a ≤ j ∧ j < b ∧ ¬ j = a ∧ ¬ j = b ∧ ¬ j = b + 1)) := fun j q1 q2 => zSp1 hb g1 hab q1 q2
  have u4 : ∀ (F : Nat → Int32) (x y j : Int32), 0 ≤ j → upd (upd F b.toNatClampNeg x) (b + 1).toNatClampNeg y j.toNatClampNeg = if j = b + 1 then y else if j = b then x else F j.toNatClampNeg := by
    intro F x y j j0
    rw [zup b1.1 j0]
    by_cases q : j = b + 1
    · rw [if_pos q, if_pos q]
    · rw [if_neg q, if_neg q, zup hb.1 j0]
  -- where each part lies
  have wh : ∀ j : Int32, a + 1 ≤ j → j < b + 2 → (upd (upd pf b.toNatClampNeg (pf a.toNatClampNeg)) (b + 1).toNatClampNeg (pf a.toNatClampNeg + h) j.toNatClampNeg = pf a.toNatClampNeg ∧ upd (upd pt b.toNatClampNeg (pf a.toNatClampNeg + h)) (b + 1).toNatClampNeg (pt a.toNatClampNeg) j.toNatClampNeg = pf a.toNatClampNeg + h ∧ j = b) ∨ (upd (upd pf b.toNatClampNeg (pf a.toNatClampNeg)) (b + 1).toNatClampNeg (pf a.toNatClampNeg + h) j.toNatClampNeg = pf a.toNatClampNeg + h ∧ upd (upd pt b.toNatClampNeg (pf a.toNatClampNeg + h)) (b + 1).toNatClampNeg (pt a.toNatClampNeg) j.toNatClampNeg = pt a.toNatClampNeg ∧ j = b + 1) ∨ (upd (upd pf b.toNatClampNeg (pf a.toNatClampNeg)) (b + 1).toNatClampNeg (pf a.toNatClampNeg + h) j.toNatClampNeg = pf j.toNatClampNeg ∧ upd (upd pt b.toNatClampNeg (pf a.toNatClampNeg + h)) (b + 1).toNatClampNeg (pt a.toNatClampNeg) j.toNatClampNeg = pt j.toNatClampNeg ∧ a ≤ j ∧ j < b ∧ ¬ j = a) := by
    intro j q1 q2
    obtain ⟨j0, w⟩ := sp j q1 q2
    rw [u4 _ _ _ _ j0, u4 _ _ _ _ j0]
    rcases w with w | w | ⟨w1, w2, w3, w4, w5⟩
    · have nb : ¬ j = b + 1 := by rw [w]; exact fun q => b1.2.1 q.symm
      rw [if_neg nb, if_neg nb, if_pos w, if_pos w]
      exact Or.inl ⟨rfl, rfl, w⟩
    · rw [if_pos w, if_pos w]
      exact Or.inr (Or.inl ⟨rfl, rfl, w⟩)
    · rw [if_neg w5, if_neg w5, if_neg w4, if_neg w4]
      exact Or.inr (Or.inr ⟨rfl, rfl, w1, w2, w3⟩)
  rw [← z1] at e1 e2
  refine ⟨fun j q1 q2 => ?_, fun i j i0 i1 j0 j1 ne => ?_, fun j k j0 j1 k0 k1 => ?_⟩
  · obtain ⟨j0, w⟩ := sp j q1 q2
    rw [u4 _ _ _ _ j0, u4 _ _ _ _ j0, u4 _ _ _ _ j0, u4 _ _ _ _ j0]
    rcases w with w | w | ⟨w1, w2, w3, w4, w5⟩
    · have nb : ¬ j = b + 1 := by rw [w]; exact fun q => b1.2.1 q.symm
      rw [if_neg nb, if_neg nb, if_neg nb, if_neg nb, if_pos w, if_pos w, if_pos w, if_pos w, z1]
      exact ⟨rfl, rfl⟩
    · rw [if_pos w, if_pos w, if_pos w, if_pos w, z1, z2]
      exact ⟨rfl, e4.symm⟩
    · rw [if_neg w5, if_neg w5, if_neg w5, if_neg w5, if_neg w4, if_neg w4, if_neg w4, if_neg w4]
      exact Z.1 j w1 w2
  · have dis : ∀ l : Int32, a ≤ l → l < b → ¬ l = a → pt a.toNatClampNeg ≤ pf l.toNatClampNeg ∨ pt l.toNatClampNeg ≤ pf a.toNatClampNeg := fun l l0 l1 l2 => Z.2.1 a l (Int32.le_refl a) hab l0 l1 (fun q => l2 q.symm)
    rcases wh i i0 i1 with ⟨x1, x2, x3⟩ | ⟨x1, x2, x3⟩ | ⟨x1, x2, x3, x4, x5⟩
    · rw [x1, x2]
      rcases wh j j0 j1 with ⟨y1, y2, y3⟩ | ⟨y1, y2, y3⟩ | ⟨y1, y2, y3, y4, y5⟩
      · exact absurd (x3.trans y3.symm) ne
      · rw [y1, y2]; exact Or.inl (Int32.le_refl _)
      · rw [y1, y2]; exact zap2 (dis j y3 y4 y5) (Int32.le_refl _) e2
    · rw [x1, x2]
      rcases wh j j0 j1 with ⟨y1, y2, y3⟩ | ⟨y1, y2, y3⟩ | ⟨y1, y2, y3, y4, y5⟩
      · rw [y1, y2]; exact Or.inr (Int32.le_refl _)
      · exact absurd (x3.trans y3.symm) ne
      · rw [y1, y2]; exact zap2 (dis j y3 y4 y5) e1 (Int32.le_refl _)
    · rw [x1, x2]
      rcases wh j j0 j1 with ⟨y1, y2, y3⟩ | ⟨y1, y2, y3⟩ | ⟨y1, y2, y3, y4, y5⟩
      · rw [y1, y2]; exact (zap2 (dis i x3 x4 x5) (Int32.le_refl _) e2).symm
      · rw [y1, y2]; exact (zap2 (dis i x3 x4 x5) e1 (Int32.le_refl _)).symm
      · rw [y1, y2]; exact Z.2.1 i j x3 x4 y3 y4 ne
  · rcases wh j j0 j1 with ⟨y1, y2, y3⟩ | ⟨y1, y2, y3⟩ | ⟨y1, y2, y3, y4, y5⟩
    · rw [y1] at k0
      rw [y2] at k1
      exact Z.2.2 a k (Int32.le_refl a) hab k0 (Int32.lt_of_lt_of_le k1 e2)
    · rw [y1] at k0
      rw [y2] at k1
      exact Z.2.2 a k (Int32.le_refl a) hab (Int32.le_trans e1 k0) k1
    · rw [y1] at k0
      rw [y2] at k1
      exact Z.2.2 j k y3 y4 k0 k1
/-- the CHOICE so far, in both -/
noncomputable def zSF (cN cF gc fin : Int32) (gof gfx row so cd hc : Nat → Int32) : Prop := zCh cN cF gof row so ∧ zCd gc gfx cd hc ∧ (∀ g : Int32, 0 ≤ g → g < gc → gfx g.toNatClampNeg = (-1) → cd g.toNatClampNeg = 0 → row g.toNatClampNeg = fin) ∧ (∀ g : Int32, 0 ≤ g → g < gc → ¬ gfx g.toNatClampNeg = (-1) → row g.toNatClampNeg = gfx g.toNatClampNeg)
noncomputable def zHW (cN cF gc fin : Int32) (gof gfx : Nat → Int32) (x : Int32 × Int32 × Int32 × (Nat → Int32) × (Nat → Int32) × (Nat → Int32) × (Nat → Int32) × (Nat → Int32) × Int32 × Int32 × (Nat → Int64)) (y : Int32 × Int32 × Int32 × Int32 × (Nat → Int32) × (Nat → Int32) × (Nat → Int32) × (Nat → Int32) × (Nat → Int32) × (Nat → Int32) × (Nat → Int64) × (Nat → Int64) × (Nat → Int64)) : Prop := x.1 = y.2.2.1 ∧ x.2.1 = y.2.2.2.1 ∧ zSF cN cF gc fin gof gfx x.2.2.2.2.2.2.2.1 y.2.2.2.2.2.2.2.2.1 x.2.2.2.1 y.2.2.2.2.1
theorem zHv_n {n a b : Int32} {P Q : Nat → Int32} (h : zHv n a b P Q) {j : Int32} (h1 : a ≤ j) (h2 : j < b) : 0 ≤ P j.toNatClampNeg ∧ 1 ≤ Q j.toNatClampNeg ∧ P j.toNatClampNeg + Q j.toNatClampNeg ≤ n ∧ P j.toNatClampNeg ≤ P j.toNatClampNeg + Q j.toNatClampNeg := by
  obtain ⟨k1, k2, k3, k4, k6, k7⟩ := h
  have e1 := Int32.le_iff_toInt_le.mp h1
  have e2 := Int32.lt_iff_toInt_lt.mp h2
  have ka : (j.toNatClampNeg : Int) = j.toInt := show ((j.toInt.toNat : Nat) : Int) = j.toInt by omega
  obtain ⟨p1, p2, p3⟩ := k6 j.toNatClampNeg (by omega) (by omega)
  have s := zo_add (x := P j.toNatClampNeg) (y := Q j.toNatClampNeg) (z := P j.toNatClampNeg + Q j.toNatClampNeg) rfl rfl rfl (by omega)
  exact ⟨zcc_le zi_0 p1, zcc_le zi_1 p2, Int32.le_iff_toInt_le.mpr (by omega), Int32.le_iff_toInt_le.mpr (by omega)⟩
set_option maxHeartbeats 16000000 in
theorem zHalveW {cF cc cN inp gc gfr gcl mFn mFa mFw mSc mTs vPr vTs vFa vRs : Int32} {nF nN stp mst prc al made amt op fx jn lets gof gfx gld rwd mF mN mCst mNF mNN mS mM mC mW mO m1 m2 mX mG mTr mFr mSo mHc mRw mPf mPm vRw vCd vUn vPf vPt : Nat → Int32} {rlo rhi mA mB mLe mGe mEr vRe : Nat → Int64} {mWb : Int64} {f fin : Int32} {x : Int32 × Int32 × Int32 × (Nat → Int32) × (Nat → Int32) × (Nat → Int32) × (Nat → Int32) × (Nat → Int32) × Int32 × Int32 × (Nat → Int64)} {y : Int32 × Int32 × Int32 × Int32 × (Nat → Int32) × (Nat → Int32) × (Nat → Int32) × (Nat → Int32) × (Nat → Int32) × (Nat → Int32) × (Nat → Int64) × (Nat → Int64) × (Nat → Int64)} (T : zTN cF cc cN inp nF nN stp mst prc al made amt op fx jn lets mF mN mNF mNN mS mM mC mW mCst mO m1 m2 mX mG mA mB) (G : zGp cN gc gfr gcl gof gfx gld fx mG) (R : zRN cN (-1) 0 op made amt rwd rlo rhi) (L : zFL cN mFn gfx mG mFr) (hf : 0 ≤ f ∧ f < cF) (S : zSF cN cF gc fin gof gfx vRw mSo vCd mHc) (hp : vPr = mSc) (ht : vTs = mTs) (h1 : fn_X3_halveWith f fin vPr vTs cF cc gc gfx vCd vUn vPf vPt vRw cN made gof prc vFa vRs stp op vRe amt rlo rhi mst al = some x) (h2 : fn_X12_halvesBy f mFn (-1) mWb mFa mFw mSc mTs mHc mRw mPf mPm mN mSo mTr mFr mG mO m1 m2 mLe mA mB mGe mS mEr mM mW mCst mC = some y) : zHW cN cF gc fin gof gfx x y := by
  have hN := T.2.1
  have gb := zRk_b (G := mG) (p := cN) hN.2.1 hN.2.2
  rw [← G.1.1] at gb
  have gc14 : 0 ≤ gc ∧ gc ≤ 14 := ⟨gb.1, Int32.le_trans gb.2 hN.2.2⟩
  have gf := zGfr T G
  have ef : zFg gfx gc.toNatClampNeg = mFn := by rw [L.1, gf.2]; exact G.2.symm
  have f14 : 0 ≤ mFn ∧ mFn ≤ 14 := by rw [L.1, gf.2]; exact gf.1
  unfold fn_X3_halveWith at h1
  unfold fn_X12_halvesBy at h2
  obtain ⟨u, hu, h1⟩ := zb_s h1
  obtain ⟨u1, u2⟩ := zFindU gc14 hu
  clear hu
  refine zl_ip (P := fun y : Int32 × Int32 × Int32 × Int32 × (Nat → Int32) × (Nat → Int32) × (Nat → Int32) × (Nat → Int32) × (Nat → Int32) × (Nat → Int32) × (Nat → Int64) × (Nat → Int64) × (Nat → Int64) => zHW cN cF gc fin gof gfx x y) (fun s => (0 ≤ s.2.1 ∧ s.2.1 ≤ mFn) ∧ s.1 = zHc mHc s.2.1.toNatClampNeg ∧ (∀ k : Int32, 0 ≤ k → k < s.2.1 → mHc k.toNatClampNeg = 0 → s.2.2 (zHc mHc k.toNatClampNeg).toNatClampNeg = k)) ?_ _ _ _ ?_ h2
  rotate_left
  · exact ⟨⟨Int32.le_refl 0, f14.1⟩, by show (0 : Int32) = zct _ (0 : Int32).toNatClampNeg; rw [zn01.1]; rfl, fun k k0 k1 => absurd k1 (Int32.not_lt.mpr k0)⟩
  intro s back o ⟨H1, H2, H3⟩ hb ho
  obtain ⟨n, k, wr⟩ := s
  dsimp only at H1 H2 H3 ho
  by_cases c : mFn ≤ k
  · rw [if_pos c] at ho
    clear hb
    rw [Int32.le_antisymm H1.2 c] at H2 H3
    obtain ⟨U, Ucd⟩ := zUn_of gc14 S.2.1 u1 u2 (fun k k0 k1 => H3 k k0 (by rw [← ef]; exact k1))
    have en : u.1 = n := by rw [u1, H2, zUcH gc14 S.2.1 gc.toNatClampNeg (Nat.le_refl _), ef]
    obtain ⟨ja, eja, h1⟩ := zj_g h1
    obtain ⟨jb, ejb, ho⟩ := zj_g ho
    have go : ∀ (ps : Int32) (pf pt P Q : Nat → Int32), zHv u.1 0 ps P Q → zQu 0 ps P Q pf pt u.2 vCd → ja (ps, pf, pt) = some x → jb (ps, P, Q) = some o → zHW cN cF gc fin gof gfx x o := by
      intro ps pf pt P Q V Z w1 w2
      have w1 := zj_s eja w1
      have w2 := zj_s ejb w2
      clear eja ejb h1 ho H3 u2
      refine zl_ip2 (P := fun (x : Int32 × Int32 × Int32 × (Nat → Int32) × (Nat → Int32) × (Nat → Int32) × (Nat → Int32) × (Nat → Int32) × Int32 × Int32 × (Nat → Int64)) (y : Int32 × Int32 × Int32 × Int32 × (Nat → Int32) × (Nat → Int32) × (Nat → Int32) × (Nat → Int32) × (Nat → Int32) × (Nat → Int32) × (Nat → Int64) × (Nat → Int64) × (Nat → Int64)) => zHW cN cF gc fin gof gfx x y) (fun s t => s.1 = t.1 ∧ s.2.2.2.1 = t.2.1 ∧ s.2.1 = t.2.2.2.2.1 ∧ s.2.2.1 = t.2.2.2.2.2.1 ∧ zSF cN cF gc fin gof gfx s.2.2.2.2.2.2.2.2.2.1 t.2.2.2.2.2.2.2.2.2.2.1 s.2.2.2.2.2.2.1 t.2.2.2.2.2.2.2.2.2.2.2.1 ∧ zHv u.1 t.1 t.2.1 t.2.2.2.2.2.2.2.2.2.2.2.2.1 t.2.2.2.2.2.2.2.2.2.2.2.2.2 ∧ zQu t.1 t.2.1 t.2.2.2.2.2.2.2.2.2.2.2.2.1 t.2.2.2.2.2.2.2.2.2.2.2.2.2 s.2.2.2.2.2.2.2.1 s.2.2.2.2.2.2.2.2.1 u.2 s.2.2.2.2.2.2.1) ?_ _ _ _ _ _ _ ?_ w1 w2
      rotate_left
      · exact ⟨rfl, rfl, hp, ht, S, V, Z⟩
      intro s t k1 k2 o1 o2 ⟨Q1, Q2, Q3, Q4, Q5, Q6, Q7⟩ hb2 q1 q2
      obtain ⟨p, pr, ts, ps, fa, rs, cd, pf, pt, row, re⟩ := s
      obtain ⟨p', ps', fa2, fw2, sc, ts2, le2, ge2, tr2, em2, so, hc, P, Q⟩ := t
      dsimp only at Q1 Q2 Q3 Q4 Q5 Q6 Q7 q1 q2
      subst Q1 Q2 Q3 Q4
      by_cases d : ps ≤ p
      · rw [if_pos d] at q1 q2
        rw [← Option.some.inj q1, ← Option.some.inj q2]
        exact ⟨rfl, rfl, Q5⟩
      · rw [if_neg d] at q1 q2
        have hab : p < ps := Int32.not_le.mp d
        obtain ⟨g1, g2, g3, g4, g5, g6, g7, g8⟩ := zHv_get Q6 d
        obtain ⟨v1, v2, v3, v4⟩ := zHv_n Q6 (Int32.le_refl p) hab
        have p28 : ¬ 28 ≤ p ∧ p < 100 := zP28 g2
        rw [if_neg p28.1] at q1
        obtain ⟨-, q1⟩ := zg_s q1
        obtain ⟨-, q2⟩ := zg_s q2
        obtain ⟨cp, hcp, q1⟩ := zb_s q1
        obtain ⟨ib, hib, q2⟩ := zb_s q2
        obtain ⟨z1, z2⟩ := Q7.1 p (Int32.le_refl p) hab
        rw [z1, z2] at hcp
        have kin : ∀ k : Int32, P p.toNatClampNeg ≤ k → k < P p.toNatClampNeg + Q p.toNatClampNeg → 0 ≤ k ∧ k < u.1 := fun k k0 k1 => ⟨Int32.le_trans v1 k0, Int32.lt_of_lt_of_le k1 v3⟩
        obtain ⟨x1, x2, x3, x4, x5, x6⟩ := zPart T G R L U ⟨v1, v4, v3⟩ rfl hf Q5.1 (fun k k0 k1 => by
          obtain ⟨m1, m2⟩ := kin k k0 k1
          obtain ⟨n1, n2, -⟩ := U.2.1 k m1 m2
          exact Q5.2.2.1 _ n1.1 n1.2 n2 (Q7.2.2 p k (Int32.le_refl p) hab (by rw [z1]; exact k0) (by rw [z2]; exact k1))) Q5.2.1 hcp hib
        have S' : zSF cN cF gc fin gof gfx cp.2.2.1 ib.2.2.2.2.2.1 cp.2.2.2.2.2.2 ib.2.2.2.2.2.2.2.2.2.2 := by
          rcases x6 with ⟨e1, e2, e3⟩ | ⟨e1, e2, e3⟩
          · refine ⟨x4, x5, fun g g0 g1 g2 g3 => ?_, fun g g0 g1 g2 => ?_⟩
            · rw [e3 g g0]
              rw [e2] at g3
              exact Q5.2.2.1 g g0 g1 g2 g3
            · rw [e3 g g0]
              exact Q5.2.2.2 g g0 g1 g2
          · refine ⟨x4, x5, fun g g0 g1 g2 g3 => ?_, fun g g0 g1 g2 => ?_⟩
            · obtain ⟨w1, w2⟩ := e2 g g0 (fun k k0 k1 q => e3 k k0 k1 (by rw [q]; exact g3))
              rw [w2]
              rw [w1] at g3
              exact Q5.2.2.1 g g0 g1 g2 g3
            · rw [(e2 g g0 (fun k k0 k1 q => g2 (by rw [← q]; exact (U.2.1 k (kin k k0 k1).1 (kin k k0 k1).2).2.1))).2]
              exact Q5.2.2.2 g g0 g1 g2
        have Zs : zQu (p + 1) ps P Q pf pt u.2 cp.2.2.2.2.2.2 := by
          have Zk := zQu_skip ⟨g1, p28.2⟩ Q7
          rcases x6 with ⟨_, e2, _⟩ | ⟨_, e2, _⟩
          · rw [e2]; exact Zk
          · refine ⟨Zk.1, Zk.2.1, fun j k j0 j1 k0 k1 => ?_⟩
            have old := Zk.2.2 j k j0 j1 k0 k1
            have pj : p ≤ j ∧ ¬ p = j := zPj1 ⟨g1, p28.2⟩ j0
            obtain ⟨y1, y2⟩ := Q7.1 j pj.1 j1
            obtain ⟨y3, -, y4, -⟩ := zHv_n Q6 pj.1 j1
            have kn : 0 ≤ k ∧ k < u.1 := ⟨Int32.le_trans y3 (by rw [← y1]; exact k0), Int32.lt_of_lt_of_le k1 (by rw [y2]; exact y4)⟩
            have dj := Q7.2.1 p j (Int32.le_refl p) hab pj.1 j1 pj.2
            rw [(e2 _ (U.2.1 k kn.1 kn.2).1.1 (fun l l0 l1 => zUn_ne U (kin l l0 l1) kn (fun q => by
              rw [q] at l0 l1
              rw [← z1] at l0
              rw [← z2] at l1
              rcases dj with w | w
              · exact absurd (Int32.lt_of_lt_of_le l1 (Int32.le_trans w k0)) Int32.lt_irrefl
              · exact absurd (Int32.lt_of_lt_of_le k1 (Int32.le_trans w l0)) Int32.lt_irrefl))).1]
            exact old
        have Vs := zHv_skip Q6 d
        by_cases r0 : cp.1 = 0
        · rw [if_pos r0] at q1
          rw [if_pos (show ib.1 = 0 from x1.symm.trans r0)] at q2
          have q1 := zn_s q1 rfl
          have el : pt p.toNatClampNeg - pf p.toNatClampNeg = Q p.toNatClampNeg := by
            rw [z1, z2]
            exact (zap1 (h := 0) v1 v2 g8 ⟨g5, g7⟩ ⟨Int32.le_refl 0, Int32.le_trans (by decide) v2⟩ rfl).2.2.1
          rw [el] at q1
          by_cases l2 : Q p.toNatClampNeg < 2
          · rw [if_pos l2] at q1
            rw [if_neg (show ¬ 2 ≤ Q p.toNatClampNeg from Int32.not_le.mpr l2)] at q2
            refine hb2 _ _ _ _ ?_ q1 q2
            exact ⟨rfl, rfl, x2, x3.symm, S', Vs, Zs⟩
          · rw [if_neg l2] at q1
            have l2' : 2 ≤ Q p.toNatClampNeg := Int32.not_lt.mp l2
            rw [if_pos l2'] at q2
            have q1 := zn_s q1 rfl
            try rw [el] at q1
            obtain ⟨o18, h18, q1⟩ := zb_s q1
            obtain ⟨o22, h22, q1⟩ := zb_s q1
            obtain ⟨s1, s2, s3⟩ := zHv_split Q6 d l2' rfl rfl
            have ps28 : ps < 28 ∧ ps + 1 < 28 ∧ ps + 1 + 1 = ps + 2 := zPs2 s1 s2
            have e18 := zAddP ps28.1 h18
            rw [e18] at h22
            dsimp only at h22
            have e22 := zAddP ps28.2.1 h22
            rw [e22] at q1
            dsimp only at q1
            obtain ⟨-, q2⟩ := zg_s q2
            have q2 := zn_s q2 rfl
            have q2 := zn_s q2 rfl
            have q2 := zn_s q2 rfl
            obtain ⟨-, q2⟩ := zg_s q2
            have q2 := zn_s q2 rfl
            have ecd : cp.2.2.2.2.2.2 = cd := by
              rcases x6 with ⟨_, e, _⟩ | ⟨e, _⟩
              · exact e
              · exact absurd r0 e
            have Zp := zQu_split Q6 hab l2' rfl Q7 ⟨s1, s2⟩
            refine hb2 _ _ _ _ ?_ q1 q2
            refine ⟨rfl, ps28.2.2, x2, x3.symm, S', s3, ?_⟩
            show zQu (p + 1) (ps + 2) _ _ _ _ u.2 cp.2.2.2.2.2.2
            rw [ecd]
            exact Zp
        · rw [if_neg r0] at q1
          rw [if_neg (show ¬ ib.1 = 0 from fun q => r0 (x1.trans q))] at q2
          refine hb2 _ _ _ _ ?_ q1 q2
          exact ⟨rfl, rfl, x2, x3.symm, S', Vs, Zs⟩
    by_cases n0 : u.1 ≤ 0
    · rw [if_pos n0] at h1
      rw [if_pos (show n ≤ 0 by rw [← en]; exact n0)] at ho
      exact go 0 _ _ _ _ (zHv_none U.1.2) ⟨fun j j0 j1 => absurd j1 (Int32.not_lt.mpr j0), fun i j i0 i1 => absurd i1 (Int32.not_lt.mpr i0), fun j k j0 j1 => absurd j1 (Int32.not_lt.mpr j0)⟩ h1 ho
    · rw [if_neg n0] at h1
      rw [if_neg (show ¬ n ≤ 0 by rw [← en]; exact n0), ← en] at ho
      have n1 : 1 ≤ u.1 := zOne n0
      obtain ⟨ad, had, h1⟩ := zb_s h1
      have ea := zAddP (show (0 : Int32) < 28 by decide) had
      rw [ea] at h1
      dsimp only at h1
      rw [show (0 + 1 : Int32) = 1 by decide] at h1
      have j0' : ∀ j : Int32, 0 ≤ j → j < 1 → j = 0 := fun j q1 q2 => zNul q1 q2
      refine go 1 _ _ _ _ (zHv_one n1 U.1.2) ⟨fun j j0 j1 => ?_, fun i j i0 i1 j0 j1 ne => absurd ((j0' i i0 i1).trans (j0' j j0 j1).symm) ne, fun j k j0 j1 k0 k1 => ?_⟩ h1 ho
      · rw [j0' j j0 j1, zup (Int32.le_refl 0) (Int32.le_refl 0), zup (Int32.le_refl 0) (Int32.le_refl 0), zup (Int32.le_refl 0) (Int32.le_refl 0), zup (Int32.le_refl 0) (Int32.le_refl 0), if_pos rfl, if_pos rfl, if_pos rfl, if_pos rfl, Int32.zero_add]
        exact ⟨rfl, rfl⟩
      · rw [j0' j j0 j1, zup (Int32.le_refl 0) (Int32.le_refl 0), if_pos rfl] at k0 k1
        exact Ucd k k0 k1
  · rw [if_neg c] at ho
    obtain ⟨-, ho⟩ := zg_s ho
    have kb : (0 ≤ k ∧ k < 100000) ∧ k ≤ 14 ∧ k ≤ 1200 ∧ 0 ≤ k + 1 ∧ k + 1 ≤ mFn := ⟨(zN14 H1.1 (Int32.not_le.mp c) f14.2).1, (zN14 H1.1 (Int32.not_le.mp c) f14.2).2.2⟩
    by_cases e : mHc k.toNatClampNeg = 0
    · rw [if_pos e] at ho
      obtain ⟨-, ho⟩ := zg_s ho
      refine hb _ _ ?_ ho
      refine ⟨kb.2.2.2, ?_, fun j j0 j1 j2 => ?_⟩
      · show n + 1 = zHc mHc (k + 1).toNatClampNeg
        rw [H2]
        exact (zct_t (b := fun k => decide (mHc k = 0)) H1.1 kb.2.2.1 (decide_eq_true e)).symm
      · have nk : 0 ≤ zHc mHc k.toNatClampNeg := (zct_b32 (b := fun k => decide (mHc k = 0)) H1.1 kb.2.1).1
        show upd wr n.toNatClampNeg k (zHc mHc j.toNatClampNeg).toNatClampNeg = j
        rcases zlt1 kb.1 j1 with q | q
        · rw [q, H2, zup nk nk, if_pos rfl]
        · have nj : 0 ≤ zHc mHc j.toNatClampNeg := (zct_b32 (b := fun k => decide (mHc k = 0)) j0 (Int32.le_trans (Int32.le_of_lt q) kb.2.1)).1
          have lt : zHc mHc j.toNatClampNeg < zHc mHc k.toNatClampNeg := zct_lt (b := fun k => decide (mHc k = 0)) j0 q kb.2.1 (decide_eq_true j2)
          rw [H2, zup nk nj, if_neg (fun w => by rw [w] at lt; exact absurd lt Int32.lt_irrefl)]
          exact H3 j j0 q j2
    · rw [if_neg e] at ho
      refine hb _ _ ?_ ho
      refine ⟨kb.2.2.2, ?_, fun j j0 j1 j2 => ?_⟩
      · show n = zHc mHc (k + 1).toNatClampNeg
        rw [H2]
        exact (zct_f (b := fun k => decide (mHc k = 0)) H1.1 kb.2.2.1 (fun q => e (of_decide_eq_true q))).symm
      · rcases zlt1 kb.1 j1 with q | q
        · rw [q] at j2; exact absurd j2 e
        · exact H3 j j0 q j2
