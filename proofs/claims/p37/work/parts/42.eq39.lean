/-! BY HALVES: all parts with one FORMAT, then all FORMATS -/
theorem zAddP {a b n : Int32} {P Q : Nat → Int32} {x : Int32 × (Nat → Int32) × (Nat → Int32)} (hn : n < 28) (h : fn_X3_addPart a b n P Q = some x) : x = (n + 1, upd P n.toNatClampNeg a, upd Q n.toNatClampNeg b) := by
  unfold fn_X3_addPart at h
  rw [if_neg (Int32.not_le.mpr hn)] at h
  obtain ⟨-, h⟩ := zg_s h
  exact (Option.some.inj h).symm
/-- parts that wait: of both, apart from each other, of GROUPS that stand unchanged -/
noncomputable def zQu (a b : Int32) (P Q pf pt un cd : Nat → Int32) : Prop := (∀ j : Int32, a ≤ j → j < b → pf j.toNatClampNeg = P j.toNatClampNeg ∧ pt j.toNatClampNeg = P j.toNatClampNeg + Q j.toNatClampNeg) ∧ (∀ i j : Int32, a ≤ i → i < b → a ≤ j → j < b → ¬ i = j → pt i.toNatClampNeg ≤ pf j.toNatClampNeg ∨ pt j.toNatClampNeg ≤ pf i.toNatClampNeg) ∧ (∀ j k : Int32, a ≤ j → j < b → pf j.toNatClampNeg ≤ k → k < pt j.toNatClampNeg → cd (un k.toNatClampNeg).toNatClampNeg = 0)
theorem zQu_skip {a b : Int32} {P Q pf pt un cd : Nat → Int32} (ha : 0 ≤ a ∧ a < 100) (h : zQu a b P Q pf pt un cd) : zQu (a + 1) b P Q pf pt un cd := by
  have l : ∀ j : Int32, a + 1 ≤ j → a ≤ j := fun j q => zLe1 ha q
  exact ⟨fun j j0 j1 => h.1 j (l j j0) j1, fun i j i0 i1 j0 j1 => h.2.1 i j (l i i0) i1 (l j j0) j1, fun j k j0 j1 => h.2.2 j k (l j j0) j1⟩
theorem zap1 {a l q h : Int32} (h1 : 0 ≤ a) (h2 : 1 ≤ l) (h3 : a + l ≤ 14) (h0 : a ≤ 13 ∧ l ≤ 14) (hh : 0 ≤ h ∧ h ≤ l) (e : q = a + l) : a ≤ a + h ∧ a + h ≤ q ∧ a + l - a = l ∧ a + h + (l - h) = a + l := by grind
theorem zap2 {p q a b u v : Int32} (h : q ≤ a ∨ b ≤ p) (h1 : p ≤ u) (h2 : v ≤ q) : v ≤ a ∨ b ≤ u := by grind
set_option maxHeartbeats 1000000 in
theorem zQu_split {n a b h : Int32} {P Q pf pt un cd : Nat → Int32} (V : zHv n a b P Q) (hab : a < b) (hQ : 2 ≤ Q a.toNatClampNeg) (eh : h = Q a.toNatClampNeg / 2) (Z : zQu a b P Q pf pt un cd) (hb : 0 ≤ b ∧ b ≤ 25) : zQu (a + 1) (b + 2) (upd (upd P b.toNatClampNeg (P a.toNatClampNeg)) (b + 1).toNatClampNeg (P a.toNatClampNeg + h)) (upd (upd Q b.toNatClampNeg h) (b + 1).toNatClampNeg (Q a.toNatClampNeg - h)) (upd (upd pf b.toNatClampNeg (pf a.toNatClampNeg)) (b + 1).toNatClampNeg (pf a.toNatClampNeg + h)) (upd (upd pt b.toNatClampNeg (pf a.toNatClampNeg + h)) (b + 1).toNatClampNeg (pt a.toNatClampNeg)) un cd := by
  obtain ⟨g1, g2, g3, g4, g5, g6, g7, g8⟩ := zHv_get V (Int32.not_le.mpr hab)
  have hh := zhalf (Q a.toNatClampNeg) (Int32.le_trans (by decide) g6)
  rw [← eh] at hh
  obtain ⟨z1, z2⟩ := Z.1 a (Int32.le_refl a) hab
  obtain ⟨e1, e2, e3, e4⟩ := zap1 (q := pt a.toNatClampNeg) (h := h) g4 g6 g8 ⟨g5, g7⟩ ⟨hh.1, hh.2.1⟩ z2
  have b1 : 0 ≤ b + 1 ∧ ¬ b + 1 = b ∧ 0 ≤ a + 1 := zBx1 hb g1 hab
  have sp : ∀ j : Int32, a + 1 ≤ j → j < b + 2 → 0 ≤ j ∧ (j = b ∨ j = b + 1 ∨ (a ≤ j ∧ j < b ∧ ¬ j = a ∧ ¬ j = b ∧ ¬ j = b + 1)) := fun j q1 q2 => zSp1 hb g1 hab q1 q2
  have u4 : ∀ (F : Nat → Int32) (x y j : Int32), 0 ≤ j → upd (upd F b.toNatClampNeg x) (b + 1).toNatClampNeg y j.toNatClampNeg = if j = b + 1 then y else if j = b then x else F j.toNatClampNeg := by
    intro F x y j j0
    rw [zup b1.1 j0]
    by_cases q : j = b + 1
    · rw [if_pos q, if_pos q]
    · rw [if_neg q, if_neg q, zup hb.1 j0]
  -- where each part lies
  have wh : ∀ j : Int32, a + 1 ≤ j → j < b + 2 → (upd (upd pf b.toNatClampNeg (pf a.toNatClampNeg)) (b + 1).toNatClampNeg (pf a.toNatClampNeg + h) j.toNatClampNeg = pf a.toNatClampNeg ∧ upd (upd pt b.toNatClampNeg (pf a.toNatClampNeg + h)) (b + 1).toNatClampNeg (pt a.toNatClampNeg) j.toNatClampNeg = pf a.toNatClampNeg + h ∧ j = b) ∨ (upd (upd pf b.toNatClampNeg (pf a.toNatClampNeg)) (b + 1).toNatClampNeg (pf a.toNatClampNeg + h) j.toNatClampNeg = pf a.toNatClampNeg + h ∧ upd (upd pt b.toNatClampNeg (pf a.toNatClampNeg + h)) (b + 1).toNatClampNeg (pt a.toNatClampNeg) j.toNatClampNeg = pt a.toNatClampNeg ∧ j = b + 1) ∨ (upd (upd pf b.toNatClampNeg (pf a.toNatClampNeg)) (b + 1).toNatClampNeg (pf a.toNatClampNeg + h) j.toNatClampNeg = pf j.toNatClampNeg ∧ upd (upd pt b.toNatClampNeg (pf a.toNatClampNeg + h)) (b + 1).toNatClampNeg (pt a.toNatClampNeg) j.toNatClampNeg = pt j.toNatClampNeg ∧ a ≤ j ∧ j < b ∧ ¬ j = a) := by
    intro j q1 q2
    obtain ⟨j0, w⟩ := sp j q1 q2
    rw [u4 _ _ _ _ j0, u4 _ _ _ _ j0]
    rcases w with w | w | ⟨w1, w2, w3, w4, w5⟩
    · have nb : ¬ j = b + 1 := by rw [w]; exact fun q => b1.2.1 q.symm
      rw [if_neg nb, if_neg nb, if_pos w, if_pos w]
      exact Or.inl ⟨rfl, rfl, w⟩
    · rw [if_pos w, if_pos w]
      exact Or.inr (Or.inl ⟨rfl, rfl, w⟩)
    · rw [if_neg w5, if_neg w5, if_neg w4, if_neg w4]
      exact Or.inr (Or.inr ⟨rfl, rfl, w1, w2, w3⟩)
  rw [← z1] at e1 e2
  refine ⟨fun j q1 q2 => ?_, fun i j i0 i1 j0 j1 ne => ?_, fun j k j0 j1 k0 k1 => ?_⟩
  · obtain ⟨j0, w⟩ := sp j q1 q2
    rw [u4 _ _ _ _ j0, u4 _ _ _ _ j0, u4 _ _ _ _ j0, u4 _ _ _ _ j0]
    rcases w with w | w | ⟨w1, w2, w3, w4, w5⟩
    · have nb : ¬ j = b + 1 := by rw [w]; exact fun q => b1.2.1 q.symm
      rw [if_neg nb, if_neg nb, if_neg nb, if_neg nb, if_pos w, if_pos w, if_pos w, if_pos w, z1]
      exact ⟨rfl, rfl⟩
    · rw [if_pos w, if_pos w, if_pos w, if_pos w, z1, z2]
      exact ⟨rfl, e4.symm⟩
    · rw [if_neg w5, if_neg w5, if_neg w5, if_neg w5, if_neg w4, if_neg w4, if_neg w4, if_neg w4]
      exact Z.1 j w1 w2
  · have dis : ∀ l : Int32, a ≤ l → l < b → ¬ l = a → pt a.toNatClampNeg ≤ pf l.toNatClampNeg ∨ pt l.toNatClampNeg ≤ pf a.toNatClampNeg := fun l l0 l1 l2 => Z.2.1 a l (Int32.le_refl a) hab l0 l1 (fun q => l2 q.symm)
    rcases wh i i0 i1 with ⟨x1, x2, x3⟩ | ⟨x1, x2, x3⟩ | ⟨x1, x2, x3, x4, x5⟩
    · rw [x1, x2]
      rcases wh j j0 j1 with ⟨y1, y2, y3⟩ | ⟨y1, y2, y3⟩ | ⟨y1, y2, y3, y4, y5⟩
      · exact absurd (x3.trans y3.symm) ne
      · rw [y1, y2]; exact Or.inl (Int32.le_refl _)
      · rw [y1, y2]; exact zap2 (dis j y3 y4 y5) (Int32.le_refl _) e2
    · rw [x1, x2]
      rcases wh j j0 j1 with ⟨y1, y2, y3⟩ | ⟨y1, y2, y3⟩ | ⟨y1, y2, y3, y4, y5⟩
      · rw [y1, y2]; exact Or.inr (Int32.le_refl _)
      · exact absurd (x3.trans y3.symm) ne
      · rw [y1, y2]; exact zap2 (dis j y3 y4 y5) e1 (Int32.le_refl _)
    · rw [x1, x2]
      rcases wh j j0 j1 with ⟨y1, y2, y3⟩ | ⟨y1, y2, y3⟩ | ⟨y1, y2, y3, y4, y5⟩
      · rw [y1, y2]; exact (zap2 (dis i x3 x4 x5) (Int32.le_refl _) e2).symm
      · rw [y1, y2]; exact (zap2 (dis i x3 x4 x5) e1 (Int32.le_refl _)).symm
      · rw [y1, y2]; exact Z.2.1 i j x3 x4 y3 y4 ne
  · rcases wh j j0 j1 with ⟨y1, y2, y3⟩ | ⟨y1, y2, y3⟩ | ⟨y1, y2, y3, y4, y5⟩
    · rw [y1] at k0
      rw [y2] at k1
      exact Z.2.2 a k (Int32.le_refl a) hab k0 (Int32.lt_of_lt_of_le k1 e2)
    · rw [y1] at k0
      rw [y2] at k1
      exact Z.2.2 a k (Int32.le_refl a) hab (Int32.le_trans e1 k0) k1
    · rw [y1] at k0
      rw [y2] at k1
      exact Z.2.2 j k y3 y4 k0 k1
/-- the CHOICE so far, in both -/
noncomputable def zSF (cN cF gc fin : Int32) (gof gfx row so cd hc : Nat → Int32) : Prop := zCh cN cF gof row so ∧ zCd gc gfx cd hc ∧ (∀ g : Int32, 0 ≤ g → g < gc → gfx g.toNatClampNeg = (-1) → cd g.toNatClampNeg = 0 → row g.toNatClampNeg = fin) ∧ (∀ g : Int32, 0 ≤ g → g < gc → ¬ gfx g.toNatClampNeg = (-1) → row g.toNatClampNeg = gfx g.toNatClampNeg)
noncomputable def zHW (cN cF gc fin : Int32) (gof gfx : Nat → Int32) (x : Int32 × Int32 × Int32 × (Nat → Int32) × (Nat → Int32) × (Nat → Int32) × (Nat → Int32) × (Nat → Int32) × Int32 × Int32 × (Nat → Int64)) (y : Int32 × Int32 × Int32 × Int32 × (Nat → Int32) × (Nat → Int32) × (Nat → Int32) × (Nat → Int32) × (Nat → Int32) × (Nat → Int32) × (Nat → Int64) × (Nat → Int64) × (Nat → Int64)) : Prop := x.1 = y.2.2.1 ∧ x.2.1 = y.2.2.2.1 ∧ zSF cN cF gc fin gof gfx x.2.2.2.2.2.2.2.1 y.2.2.2.2.2.2.2.2.1 x.2.2.2.1 y.2.2.2.2.1
theorem zHv_n {n a b : Int32} {P Q : Nat → Int32} (h : zHv n a b P Q) {j : Int32} (h1 : a ≤ j) (h2 : j < b) : 0 ≤ P j.toNatClampNeg ∧ 1 ≤ Q j.toNatClampNeg ∧ P j.toNatClampNeg + Q j.toNatClampNeg ≤ n ∧ P j.toNatClampNeg ≤ P j.toNatClampNeg + Q j.toNatClampNeg := by
  obtain ⟨k1, k2, k3, k4, k6, k7⟩ := h
  have e1 := Int32.le_iff_toInt_le.mp h1
  have e2 := Int32.lt_iff_toInt_lt.mp h2
  have ka : (j.toNatClampNeg : Int) = j.toInt := show ((j.toInt.toNat : Nat) : Int) = j.toInt by omega
  obtain ⟨p1, p2, p3⟩ := k6 j.toNatClampNeg (by omega) (by omega)
  have s := zo_add (x := P j.toNatClampNeg) (y := Q j.toNatClampNeg) (z := P j.toNatClampNeg + Q j.toNatClampNeg) rfl rfl rfl (by omega)
  exact ⟨zcc_le zi_0 p1, zcc_le zi_1 p2, Int32.le_iff_toInt_le.mpr (by omega), Int32.le_iff_toInt_le.mpr (by omega)⟩
set_option maxHeartbeats 16000000 in
theorem zHalveW {cF cc cN inp gc gfr gcl mFn mFa mFw mSc mTs vPr vTs vFa vRs : Int32} {nF nN stp mst prc al made amt op fx jn lets gof gfx gld rwd mF mN mCst mNF mNN mS mM mC mW mO m1 m2 mX mG mTr mFr mSo mHc mRw mPf mPm vRw vCd vUn vPf vPt : Nat → Int32} {rlo rhi mA mB mLe mGe mEr vRe : Nat → Int64} {mWb : Int64} {f fin : Int32} {x : Int32 × Int32 × Int32 × (Nat → Int32) × (Nat → Int32) × (Nat → Int32) × (Nat → Int32) × (Nat → Int32) × Int32 × Int32 × (Nat → Int64)} {y : Int32 × Int32 × Int32 × Int32 × (Nat → Int32) × (Nat → Int32) × (Nat → Int32) × (Nat → Int32) × (Nat → Int32) × (Nat → Int32) × (Nat → Int64) × (Nat → Int64) × (Nat → Int64)} (T : zTN cF cc cN inp nF nN stp mst prc al made amt op fx jn lets mF mN mNF mNN mS mM mC mW mCst mO m1 m2 mX mG mA mB) (G : zGp cN gc gfr gcl gof gfx gld fx mG) (R : zRN cN (-1) 0 op made amt rwd rlo rhi) (L : zFL cN mFn gfx mG mFr) (hf : 0 ≤ f ∧ f < cF) (S : zSF cN cF gc fin gof gfx vRw mSo vCd mHc) (hp : vPr = mSc) (ht : vTs = mTs) (h1 : fn_X3_halveWith f fin vPr vTs cF cc gc gfx vCd vUn vPf vPt vRw cN made gof prc vFa vRs stp op vRe amt rlo rhi mst al = some x) (h2 : fn_X12_halvesBy f mFn (-1) mWb mFa mFw mSc mTs mHc mRw mPf mPm mN mSo mTr mFr mG mO m1 m2 mLe mA mB mGe mS mEr mM mW mCst mC = some y) : zHW cN cF gc fin gof gfx x y := by
  have hN := T.2.1
  have gb := zRk_b (G := mG) (p := cN) hN.2.1 hN.2.2
  rw [← G.1.1] at gb
  have gc14 : 0 ≤ gc ∧ gc ≤ 14 := ⟨gb.1, Int32.le_trans gb.2 hN.2.2⟩
  have gf := zGfr T G
  have ef : zFg gfx gc.toNatClampNeg = mFn := by rw [L.1, gf.2]; exact G.2.symm
  have f14 : 0 ≤ mFn ∧ mFn ≤ 14 := by rw [L.1, gf.2]; exact gf.1
  unfold fn_X3_halveWith at h1
  unfold fn_X12_halvesBy at h2
  obtain ⟨u, hu, h1⟩ := zb_s h1
  obtain ⟨u1, u2⟩ := zFindU gc14 hu
  clear hu
  refine zl_ip (P := fun y : Int32 × Int32 × Int32 × Int32 × (Nat → Int32) × (Nat → Int32) × (Nat → Int32) × (Nat → Int32) × (Nat → Int32) × (Nat → Int32) × (Nat → Int64) × (Nat → Int64) × (Nat → Int64) => zHW cN cF gc fin gof gfx x y) (fun s => (0 ≤ s.2.1 ∧ s.2.1 ≤ mFn) ∧ s.1 = zHc mHc s.2.1.toNatClampNeg ∧ (∀ k : Int32, 0 ≤ k → k < s.2.1 → mHc k.toNatClampNeg = 0 → s.2.2 (zHc mHc k.toNatClampNeg).toNatClampNeg = k)) ?_ _ _ _ ?_ h2
  rotate_left
  · exact ⟨⟨Int32.le_refl 0, f14.1⟩, by show (0 : Int32) = zct _ (0 : Int32).toNatClampNeg; rw [zn01.1]; rfl, fun k k0 k1 => absurd k1 (Int32.not_lt.mpr k0)⟩
  intro s back o ⟨H1, H2, H3⟩ hb ho
  obtain ⟨n, k, wr⟩ := s
  dsimp only at H1 H2 H3 ho
  by_cases c : mFn ≤ k
  · rw [if_pos c] at ho
    clear hb
    rw [Int32.le_antisymm H1.2 c] at H2 H3
    obtain ⟨U, Ucd⟩ := zUn_of gc14 S.2.1 u1 u2 (fun k k0 k1 => H3 k k0 (by rw [← ef]; exact k1))
    have en : u.1 = n := by rw [u1, H2, zUcH gc14 S.2.1 gc.toNatClampNeg (Nat.le_refl _), ef]
    obtain ⟨ja, eja, h1⟩ := zj_g h1
    obtain ⟨jb, ejb, ho⟩ := zj_g ho
    have go : ∀ (ps : Int32) (pf pt P Q : Nat → Int32), zHv u.1 0 ps P Q → zQu 0 ps P Q pf pt u.2 vCd → ja (ps, pf, pt) = some x → jb (ps, P, Q) = some o → zHW cN cF gc fin gof gfx x o := by
      intro ps pf pt P Q V Z w1 w2
      have w1 := zj_s eja w1
      have w2 := zj_s ejb w2
      clear eja ejb h1 ho H3 u2
      refine zl_ip2 (P := fun (x : Int32 × Int32 × Int32 × (Nat → Int32) × (Nat → Int32) × (Nat → Int32) × (Nat → Int32) × (Nat → Int32) × Int32 × Int32 × (Nat → Int64)) (y : Int32 × Int32 × Int32 × Int32 × (Nat → Int32) × (Nat → Int32) × (Nat → Int32) × (Nat → Int32) × (Nat → Int32) × (Nat → Int32) × (Nat → Int64) × (Nat → Int64) × (Nat → Int64)) => zHW cN cF gc fin gof gfx x y) (fun s t => s.1 = t.1 ∧ s.2.2.2.1 = t.2.1 ∧ s.2.1 = t.2.2.2.2.1 ∧ s.2.2.1 = t.2.2.2.2.2.1 ∧ zSF cN cF gc fin gof gfx s.2.2.2.2.2.2.2.2.2.1 t.2.2.2.2.2.2.2.2.2.2.1 s.2.2.2.2.2.2.1 t.2.2.2.2.2.2.2.2.2.2.2.1 ∧ zHv u.1 t.1 t.2.1 t.2.2.2.2.2.2.2.2.2.2.2.2.1 t.2.2.2.2.2.2.2.2.2.2.2.2.2 ∧ zQu t.1 t.2.1 t.2.2.2.2.2.2.2.2.2.2.2.2.1 t.2.2.2.2.2.2.2.2.2.2.2.2.2 s.2.2.2.2.2.2.2.1 s.2.2.2.2.2.2.2.2.1 u.2 s.2.2.2.2.2.2.1) ?_ _ _ _ _ _ _ ?_ w1 w2
      rotate_left
      · exact ⟨rfl, rfl, hp, ht, S, V, Z⟩
      intro s t k1 k2 o1 o2 ⟨Q1, Q2, Q3, Q4, Q5, Q6, Q7⟩ hb2 q1 q2
      obtain ⟨p, pr, ts, ps, fa, rs, cd, pf, pt, row, re⟩ := s
      obtain ⟨p', ps', fa2, fw2, sc, ts2, le2, ge2, tr2, em2, so, hc, P, Q⟩ := t
      dsimp only at Q1 Q2 Q3 Q4 Q5 Q6 Q7 q1 q2
      subst Q1 Q2 Q3 Q4
      by_cases d : ps ≤ p
      · rw [if_pos d] at q1 q2
        rw [← Option.some.inj q1, ← Option.some.inj q2]
        exact ⟨rfl, rfl, Q5⟩
      · rw [if_neg d] at q1 q2
        have hab : p < ps := Int32.not_le.mp d
        obtain ⟨g1, g2, g3, g4, g5, g6, g7, g8⟩ := zHv_get Q6 d
        obtain ⟨v1, v2, v3, v4⟩ := zHv_n Q6 (Int32.le_refl p) hab
        have p28 : ¬ 28 ≤ p ∧ p < 100 := zP28 g2
        rw [if_neg p28.1] at q1
        obtain ⟨-, q1⟩ := zg_s q1
        obtain ⟨-, q2⟩ := zg_s q2
        obtain ⟨cp, hcp, q1⟩ := zb_s q1
        obtain ⟨ib, hib, q2⟩ := zb_s q2
        obtain ⟨z1, z2⟩ := Q7.1 p (Int32.le_refl p) hab
        rw [z1, z2] at hcp
        have kin : ∀ k : Int32, P p.toNatClampNeg ≤ k → k < P p.toNatClampNeg + Q p.toNatClampNeg → 0 ≤ k ∧ k < u.1 := fun k k0 k1 => ⟨Int32.le_trans v1 k0, Int32.lt_of_lt_of_le k1 v3⟩
        obtain ⟨x1, x2, x3, x4, x5, x6⟩ := zPart T G R L U ⟨v1, v4, v3⟩ rfl hf Q5.1 (fun k k0 k1 => by
          obtain ⟨m1, m2⟩ := kin k k0 k1
          obtain ⟨n1, n2, -⟩ := U.2.1 k m1 m2
          exact Q5.2.2.1 _ n1.1 n1.2 n2 (Q7.2.2 p k (Int32.le_refl p) hab (by rw [z1]; exact k0) (by rw [z2]; exact k1))) Q5.2.1 hcp hib
        have S' : zSF cN cF gc fin gof gfx cp.2.2.1 ib.2.2.2.2.2.1 cp.2.2.2.2.2.2 ib.2.2.2.2.2.2.2.2.2.2 := by
          rcases x6 with ⟨e1, e2, e3⟩ | ⟨e1, e2, e3⟩
          · refine ⟨x4, x5, fun g g0 g1 g2 g3 => ?_, fun g g0 g1 g2 => ?_⟩
            · rw [e3 g g0]
              rw [e2] at g3
              exact Q5.2.2.1 g g0 g1 g2 g3
            · rw [e3 g g0]
              exact Q5.2.2.2 g g0 g1 g2
          · refine ⟨x4, x5, fun g g0 g1 g2 g3 => ?_, fun g g0 g1 g2 => ?_⟩
            · obtain ⟨w1, w2⟩ := e2 g g0 (fun k k0 k1 q => e3 k k0 k1 (by rw [q]; exact g3))
              rw [w2]
              rw [w1] at g3
              exact Q5.2.2.1 g g0 g1 g2 g3
            · rw [(e2 g g0 (fun k k0 k1 q => g2 (by rw [← q]; exact (U.2.1 k (kin k k0 k1).1 (kin k k0 k1).2).2.1))).2]
              exact Q5.2.2.2 g g0 g1 g2
        have Zs : zQu (p + 1) ps P Q pf pt u.2 cp.2.2.2.2.2.2 := by
          have Zk := zQu_skip ⟨g1, p28.2⟩ Q7
          rcases x6 with ⟨_, e2, _⟩ | ⟨_, e2, _⟩
          · rw [e2]; exact Zk
          · refine ⟨Zk.1, Zk.2.1, fun j k j0 j1 k0 k1 => ?_⟩
            have old := Zk.2.2 j k j0 j1 k0 k1
            have pj : p ≤ j ∧ ¬ p = j := zPj1 ⟨g1, p28.2⟩ j0
            obtain ⟨y1, y2⟩ := Q7.1 j pj.1 j1
            obtain ⟨y3, -, y4, -⟩ := zHv_n Q6 pj.1 j1
            have kn : 0 ≤ k ∧ k < u.1 := ⟨Int32.le_trans y3 (by rw [← y1]; exact k0), Int32.lt_of_lt_of_le k1 (by rw [y2]; exact y4)⟩
            have dj := Q7.2.1 p j (Int32.le_refl p) hab pj.1 j1 pj.2
            rw [(e2 _ (U.2.1 k kn.1 kn.2).1.1 (fun l l0 l1 => zUn_ne U (kin l l0 l1) kn (fun q => by
              rw [q] at l0 l1
              rw [← z1] at l0
              rw [← z2] at l1
              rcases dj with w | w
              · exact absurd (Int32.lt_of_lt_of_le l1 (Int32.le_trans w k0)) Int32.lt_irrefl
              · exact absurd (Int32.lt_of_lt_of_le k1 (Int32.le_trans w l0)) Int32.lt_irrefl))).1]
            exact old
        have Vs := zHv_skip Q6 d
        by_cases r0 : cp.1 = 0
        · rw [if_pos r0] at q1
          rw [if_pos (show ib.1 = 0 from x1.symm.trans r0)] at q2
          have q1 := zn_s q1 rfl
          have el : pt p.toNatClampNeg - pf p.toNatClampNeg = Q p.toNatClampNeg := by
            rw [z1, z2]
            exact (zap1 (h := 0) v1 v2 g8 ⟨g5, g7⟩ ⟨Int32.le_refl 0, Int32.le_trans (by decide) v2⟩ rfl).2.2.1
          rw [el] at q1
          by_cases l2 : Q p.toNatClampNeg < 2
          · rw [if_pos l2] at q1
            rw [if_neg (show ¬ 2 ≤ Q p.toNatClampNeg from Int32.not_le.mpr l2)] at q2
            refine hb2 _ _ _ _ ?_ q1 q2
            exact ⟨rfl, rfl, x2, x3.symm, S', Vs, Zs⟩
          · rw [if_neg l2] at q1
            have l2' : 2 ≤ Q p.toNatClampNeg := Int32.not_lt.mp l2
            rw [if_pos l2'] at q2
            have q1 := zn_s q1 rfl
            try rw [el] at q1
            obtain ⟨o18, h18, q1⟩ := zb_s q1
            obtain ⟨o22, h22, q1⟩ := zb_s q1
            obtain ⟨s1, s2, s3⟩ := zHv_split Q6 d l2' rfl rfl
            have ps28 : ps < 28 ∧ ps + 1 < 28 ∧ ps + 1 + 1 = ps + 2 := zPs2 s1 s2
            have e18 := zAddP ps28.1 h18
            rw [e18] at h22
            dsimp only at h22
            have e22 := zAddP ps28.2.1 h22
            rw [e22] at q1
            dsimp only at q1
            obtain ⟨-, q2⟩ := zg_s q2
            have q2 := zn_s q2 rfl
            have q2 := zn_s q2 rfl
            have q2 := zn_s q2 rfl
            obtain ⟨-, q2⟩ := zg_s q2
            have q2 := zn_s q2 rfl
            have ecd : cp.2.2.2.2.2.2 = cd := by
              rcases x6 with ⟨_, e, _⟩ | ⟨e, _⟩
              · exact e
              · exact absurd r0 e
            have Zp := zQu_split Q6 hab l2' rfl Q7 ⟨s1, s2⟩
            refine hb2 _ _ _ _ ?_ q1 q2
            refine ⟨rfl, ps28.2.2, x2, x3.symm, S', s3, ?_⟩
            show zQu (p + 1) (ps + 2) _ _ _ _ u.2 cp.2.2.2.2.2.2
            rw [ecd]
            exact Zp
        · rw [if_neg r0] at q1
          rw [if_neg (show ¬ ib.1 = 0 from fun q => r0 (x1.trans q))] at q2
          refine hb2 _ _ _ _ ?_ q1 q2
          exact ⟨rfl, rfl, x2, x3.symm, S', Vs, Zs⟩
    by_cases n0 : u.1 ≤ 0
    · rw [if_pos n0] at h1
      rw [if_pos (show n ≤ 0 by rw [← en]; exact n0)] at ho
      exact go 0 _ _ _ _ (zHv_none U.1.2) ⟨fun j j0 j1 => absurd j1 (Int32.not_lt.mpr j0), fun i j i0 i1 => absurd i1 (Int32.not_lt.mpr i0), fun j k j0 j1 => absurd j1 (Int32.not_lt.mpr j0)⟩ h1 ho
    · rw [if_neg n0] at h1
      rw [if_neg (show ¬ n ≤ 0 by rw [← en]; exact n0), ← en] at ho
      have n1 : 1 ≤ u.1 := zOne n0
      obtain ⟨ad, had, h1⟩ := zb_s h1
      have ea := zAddP (show (0 : Int32) < 28 by decide) had
      rw [ea] at h1
      dsimp only at h1
      rw [show (0 + 1 : Int32) = 1 by decide] at h1
      have j0' : ∀ j : Int32, 0 ≤ j → j < 1 → j = 0 := fun j q1 q2 => zNul q1 q2
      refine go 1 _ _ _ _ (zHv_one n1 U.1.2) ⟨fun j j0 j1 => ?_, fun i j i0 i1 j0 j1 ne => absurd ((j0' i i0 i1).trans (j0' j j0 j1).symm) ne, fun j k j0 j1 k0 k1 => ?_⟩ h1 ho
      · rw [j0' j j0 j1, zup (Int32.le_refl 0) (Int32.le_refl 0), zup (Int32.le_refl 0) (Int32.le_refl 0), zup (Int32.le_refl 0) (Int32.le_refl 0), zup (Int32.le_refl 0) (Int32.le_refl 0), if_pos rfl, if_pos rfl, if_pos rfl, if_pos rfl, Int32.zero_add]
        exact ⟨rfl, rfl⟩
      · rw [j0' j j0 j1, zup (Int32.le_refl 0) (Int32.le_refl 0), if_pos rfl] at k0 k1
        exact Ucd k k0 k1
  · rw [if_neg c] at ho
    obtain ⟨-, ho⟩ := zg_s ho
    have kb : (0 ≤ k ∧ k < 100000) ∧ k ≤ 14 ∧ k ≤ 1200 ∧ 0 ≤ k + 1 ∧ k + 1 ≤ mFn := ⟨(zN14 H1.1 (Int32.not_le.mp c) f14.2).1, (zN14 H1.1 (Int32.not_le.mp c) f14.2).2.2⟩
    by_cases e : mHc k.toNatClampNeg = 0
    · rw [if_pos e] at ho
      obtain ⟨-, ho⟩ := zg_s ho
      refine hb _ _ ?_ ho
      refine ⟨kb.2.2.2, ?_, fun j j0 j1 j2 => ?_⟩
      · show n + 1 = zHc mHc (k + 1).toNatClampNeg
        rw [H2]
        exact (zct_t (b := fun k => decide (mHc k = 0)) H1.1 kb.2.2.1 (decide_eq_true e)).symm
      · have nk : 0 ≤ zHc mHc k.toNatClampNeg := (zct_b32 (b := fun k => decide (mHc k = 0)) H1.1 kb.2.1).1
        show upd wr n.toNatClampNeg k (zHc mHc j.toNatClampNeg).toNatClampNeg = j
        rcases zlt1 kb.1 j1 with q | q
        · rw [q, H2, zup nk nk, if_pos rfl]
        · have nj : 0 ≤ zHc mHc j.toNatClampNeg := (zct_b32 (b := fun k => decide (mHc k = 0)) j0 (Int32.le_trans (Int32.le_of_lt q) kb.2.1)).1
          have lt : zHc mHc j.toNatClampNeg < zHc mHc k.toNatClampNeg := zct_lt (b := fun k => decide (mHc k = 0)) j0 q kb.2.1 (decide_eq_true j2)
          rw [H2, zup nk nj, if_neg (fun w => by rw [w] at lt; exact absurd lt Int32.lt_irrefl)]
          exact H3 j j0 q j2
    · rw [if_neg e] at ho
      refine hb _ _ ?_ ho
      refine ⟨kb.2.2.2, ?_, fun j j0 j1 j2 => ?_⟩
      · show n = zHc mHc (k + 1).toNatClampNeg
        rw [H2]
        exact (zct_f (b := fun k => decide (mHc k = 0)) H1.1 kb.2.2.1 (fun q => e (of_decide_eq_true q))).symm
      · rcases zlt1 kb.1 j1 with q | q
        · rw [q] at j2; exact absurd j2 e
        · exact H3 j j0 q j2
/-! BY HALVES: the first CHOICE, all FORMATS; what is kept of it -/
noncomputable def zHR (cN cF gc : Int32) (gof gfx : Nat → Int32) (x : Int32 × Int32 × Int32 × Int32 × Int32 × Int32 × (Nat → Int32) × (Nat → Int32) × Int32 × Int32 × (Nat → Int64) × (Nat → Int32) × (Nat → Int32) × (Nat → Int32)) (y : Int32 × Int32 × Int32 × Int32 × Int32 × Int32 × Int32 × (Nat → Int32) × (Nat → Int32) × (Nat → Int32) × (Nat → Int64) × (Nat → Int64) × (Nat → Int64) × (Nat → Int32) × (Nat → Int32) × (Nat → Int32) × (Nat → Int32)) : Prop := x.1 = y.1 ∧ (y.1 = 0 ∨ y.1 = 1) ∧ (y.1 = 1 → x.2.1 = y.2.2.2.2.2.1 ∧ x.2.2.1 = y.2.2.2.2.2.2.1 ∧ zCh cN cF gof x.2.2.2.2.2.2.1 y.2.2.2.2.2.2.2.2.2.2.2.2.2.1 ∧ ∀ g : Int32, 0 ≤ g → g < gc → ¬ gfx g.toNatClampNeg = (-1) → x.2.2.2.2.2.2.1 g.toNatClampNeg = gfx g.toNatClampNeg)
set_option maxHeartbeats 16000000 in
theorem zHalve {cF cc cN inp gc gfr gcl mHh mFa mFw mSc mTs vSt vPs vPr vTs vFa vRs : Int32} {nF nN stp mst prc al made amt op fx jn lets gof gfx gld rwd hand mF mN mCst mNF mNN mS mM mC mW mO m1 m2 mX mG mH mTr mFr mSo mHc mRw mPf mPm vRw vCd vUn vPf vPt : Nat → Int32} {rlo rhi mA mB mLe mGe mEr vRe : Nat → Int64} {mWb : Int64} {x : Int32 × Int32 × Int32 × Int32 × Int32 × Int32 × (Nat → Int32) × (Nat → Int32) × Int32 × Int32 × (Nat → Int64) × (Nat → Int32) × (Nat → Int32) × (Nat → Int32)} {y : Int32 × Int32 × Int32 × Int32 × Int32 × Int32 × Int32 × (Nat → Int32) × (Nat → Int32) × (Nat → Int32) × (Nat → Int64) × (Nat → Int64) × (Nat → Int64) × (Nat → Int32) × (Nat → Int32) × (Nat → Int32) × (Nat → Int32)} (T : zTN cF cc cN inp nF nN stp mst prc al made amt op fx jn lets mF mN mNF mNN mS mM mC mW mCst mO m1 m2 mX mG mA mB) (G : zGp cN gc gfr gcl gof gfx gld fx mG) (R : zRN cN (-1) 0 op made amt rwd rlo rhi) (H : zHN cN cF gcl mHh gof gfx hand mH) (cl : 0 < cN ∧ gcl = 0) (h1 : fn_X3_goByHalves 0 vSt vPs vPr vTs cF cc cN gc gcl stp vRw gfx vCd vFa vRs gof op made vRe amt rlo rhi mst al prc vUn vPf vPt = some x) (h2 : fn_X12_halve mWb mHh mFa mFw mSc mTs mN mG mX mFr mF mS mH mTr mHc mO m1 m2 mLe mA mB mGe mEr mM mW mSo mCst mC mRw mPf mPm = some y) : zHR cN cF gc gof gfx x y := by
  have hN := T.2.1
  have gb := zRk_b (G := mG) (p := cN) hN.2.1 hN.2.2
  rw [← G.1.1] at gb
  have gc14 : 0 ≤ gc ∧ gc ≤ 14 := ⟨gb.1, Int32.le_trans gb.2 hN.2.2⟩
  have gf := zGfr T G
  have cF0 : 0 < cF := T.2.2.2.2.1 cl.1
  have cF4 := T.1.2.2
  obtain ⟨C, Dx⟩ := H.2.2 cl.1 cl.2
  unfold fn_X3_goByHalves at h1
  unfold fn_X12_halve at h2
  rw [zHasC hN.2.1, zb_some, if_neg (by rw [zif1]; exact fun q => q cl), if_pos rfl] at h1
  obtain ⟨fr, hfr, h2⟩ := zb_s h2
  rw [zIsTh ⟨hN.1, hN.2.1⟩ H, zb_some, if_neg (by rw [zif1]; exact fun q => q cl)] at h2
  have lf : zFL cN fr.1 gfx mG fr.2 := zLaysFree T G hfr
  have ef : zFg gfx gc.toNatClampNeg = fr.1 := by rw [lf.1, gf.2]; exact G.2.symm
  have f14 : 0 ≤ fr.1 ∧ fr.1 ≤ 14 := by rw [lf.1, gf.2]; exact gf.1
  obtain ⟨fin, hfin, h1⟩ := zb_s h1
  obtain ⟨fi2, hfi2, h2⟩ := zb_s h2
  obtain ⟨efin, fin0, fin1⟩ := zFinest T cF0 hfin hfi2
  subst efin
  obtain ⟨r0, hr0, h1⟩ := zb_s h1
  have rr := zFillF gc14 hr0
  obtain ⟨k9, cd0, h1, hcd⟩ := zCopyK (c := 14) (so := fun _ => vp_nar .boolean 0) ⟨by decide, by decide⟩ h1
  try dsimp only at h1
  have hcd0 : ∀ i : Int32, 0 ≤ i → i < 14 → cd0 i.toNatClampNeg = 0 := fun i i0 i1 => (hcd i i0 i1).trans znar.2
  obtain ⟨rk, hrk, h1⟩ := zb_s h1
  obtain ⟨p, hp, h1⟩ := zb_s h1
  obtain ⟨th, hth, h2⟩ := zb_s h2
  have tr := zTrH hN hth
  rw [zn01.1, T.1.1] at h2
  clear hfr hfin hfi2 hr0 hth hcd
  have gr : ∀ i : Int32, 0 ≤ i → i < cN → (0 ≤ gof i.toNatClampNeg ∧ gof i.toNatClampNeg < 14) ∧ gof i.toNatClampNeg < gc := by
    intro i i0 i1
    obtain ⟨l1, l2, l3⟩ := T.2.2.2.2.2.2.2.2.1 i i0 i1
    have b1 := zRk_lt (G := mG) l1 (Int32.lt_of_le_of_lt l2 i1) hN.2.2 l3
    rw [← G.1.1, ← G.1.2.1 i i0 i1] at b1
    exact ⟨zGofR hN.2.2 T.2.2.2.2.2.2.2.2 G ⟨i0, i1⟩, b1⟩
  refine zl_ip (P := fun y : Int32 × Int32 × Int32 × Int32 × Int32 × Int32 × Int32 × (Nat → Int32) × (Nat → Int32) × (Nat → Int32) × (Nat → Int64) × (Nat → Int64) × (Nat → Int64) × (Nat → Int32) × (Nat → Int32) × (Nat → Int32) × (Nat → Int32) => zHR cN cF gc gof gfx x y) (fun s => (0 ≤ s.1 ∧ s.1 ≤ fr.1) ∧ (∀ i : Int32, 0 ≤ i → i < cN → (gfx (gof i.toNatClampNeg).toNatClampNeg = (-1) → zFg gfx (gof i.toNatClampNeg).toNatClampNeg < s.1 → s.2.1 i.toNatClampNeg = fin) ∧ (¬ gfx (gof i.toNatClampNeg).toNatClampNeg = (-1) → s.2.1 i.toNatClampNeg = mH i.toNatClampNeg)) ∧ (∀ k : Int32, 0 ≤ k → k < s.1 → s.2.2 k.toNatClampNeg = 0)) ?_ _ _ _ ⟨⟨Int32.le_refl 0, f14.1⟩, fun i i0 i1 => ⟨fun q w => ?_, fun _ => tr i i0 i1⟩, fun k k0 k1 => absurd k1 (Int32.not_lt.mpr k0)⟩ h2
  · intro s back o ⟨H1, H2, H3⟩ hb ho
    obtain ⟨k, t, hc⟩ := s
    dsimp only at H1 H2 H3 ho
    by_cases c : fr.1 ≤ k
    · rw [if_pos c] at ho
      clear hb
      rw [Int32.le_antisymm H1.2 c] at H2 H3
      have C0 : zCh cN cF gof r0 t := by
        intro i i0 i1
        obtain ⟨a1, a2⟩ := gr i i0 i1
        refine ⟨a1, ?_⟩
        rw [rr _ a1.1 a2]
        by_cases q : gfx (gof i.toNatClampNeg).toNatClampNeg = (-1)
        · have l : zFg gfx (gof i.toNatClampNeg).toNatClampNeg < fr.1 := by rw [← ef]; exact zct_lt (b := fun g => decide (gfx g = (-1))) a1.1 a2 gc14.2 (decide_eq_true q)
          rw [if_pos q, (H2 i i0 i1).1 q l]
          exact ⟨rfl, fin0, fin1⟩
        · obtain ⟨-, c2, c3, c4⟩ := C i i0 i1
          rw [if_neg q, (H2 i i0 i1).2 q, ← Dx i i0 i1 q, c2]
          exact ⟨rfl, c3, c4⟩
      obtain ⟨ps, hps, ho⟩ := zb_s ho
      have pe := zPassEq (wd := rwd) T (zRN_1 R) (Or.inl rfl) C0 hrk hps
      by_cases z : rk.1 = 0
      · rw [if_pos (show ps.1 = 0 from pe.1.symm.trans z)] at ho
        rw [← Option.some.inj ho]
        obtain ⟨B, eB, h1⟩ := zl_g h1
        have h1 := zl_s eB h1
        try dsimp only at h1
        rw [if_pos z] at h1
        obtain ⟨-, h1⟩ := zt_s h1
        rw [← Option.some.inj h1]
        exact ⟨z, Or.inl rfl, fun q => absurd (show (0 : Int32) = 1 from q) (by decide)⟩
      · have z1 : rk.1 = 1 := by
          rcases pe.2.2.2 with ⟨w, _⟩ | ⟨w, _⟩
          · exact w
          · exact absurd w z
        rw [if_neg (show ¬ ps.1 = 0 from fun q => z (pe.1.trans q))] at ho
        obtain ⟨kt, hkt, ho⟩ := zb_s ho
        obtain ⟨kt1, kt2⟩ := zKeepsT hN hkt
        have ep : p = kt.1 := zPriceEq T C0 hp kt1
        have S0 : zSF cN cF gc fin gof gfx r0 kt.2 cd0 hc := by
          refine ⟨zCh_c C0 kt2, fun g g0 g1 g2 => ⟨fun _ => ?_, fun _ => hcd0 g g0 (Int32.lt_of_lt_of_le g1 gc14.2)⟩, fun g g0 g1 g2 _ => ?_, fun g g0 g1 g2 => ?_⟩
          · refine H3 _ (zct_b32 (b := fun g => decide (gfx g = (-1))) g0 (Int32.le_trans (Int32.le_of_lt g1) gc14.2)).1 ?_
            rw [← ef]
            exact zct_lt (b := fun g => decide (gfx g = (-1))) g0 g1 gc14.2 (decide_eq_true g2)
          · rw [rr g g0 g1, if_pos g2]
          · rw [rr g g0 g1, if_neg g2]
        refine zl_ip2 (P := fun (x : Int32 × Int32 × Int32 × Int32 × Int32 × Int32 × (Nat → Int32) × (Nat → Int32) × Int32 × Int32 × (Nat → Int64) × (Nat → Int32) × (Nat → Int32) × (Nat → Int32)) (y : Int32 × Int32 × Int32 × Int32 × Int32 × Int32 × Int32 × (Nat → Int32) × (Nat → Int32) × (Nat → Int32) × (Nat → Int64) × (Nat → Int64) × (Nat → Int64) × (Nat → Int32) × (Nat → Int32) × (Nat → Int32) × (Nat → Int32)) => zHR cN cF gc gof gfx x y) (fun s t => (0 ≤ s.1 ∧ s.1 ≤ cF) ∧ s.1 = t.1 ∧ s.2.1 = t.2.2.2.1 ∧ s.2.2.1 = t.2.2.2.2.1 ∧ zSF cN cF gc fin gof gfx s.2.2.2.2.2.2.2.2.2.2.1 t.2.2.2.2.2.2.2.2.2.1 s.2.2.2.2.2.2.1 t.2.2.2.2.2.2.2.2.2.2.1) ?_ _ _ _ _ _ _ ?_ h1 ho
        rotate_left
        · exact ⟨⟨Int32.le_refl 0, Int32.le_of_lt cF0⟩, rfl, ep, rfl, S0⟩
        intro s t k1 k2 o1 o2 ⟨Q1, Q2, Q3, Q4, Q5⟩ hb2 q1 q2
        obtain ⟨f, pr, ts, pt0, fa, rs, cd, un, pf, pt, row, re⟩ := s
        obtain ⟨f', fa2, fw2, sc, ts2, le2, ge2, tr2, em2, so, hc2, wr2, pf2, pm2⟩ := t
        dsimp only at Q1 Q2 Q3 Q4 Q5 q1 q2
        subst Q2 Q3 Q4
        rw [if_neg z] at q1
        by_cases d : cF ≤ f
        · rw [if_pos d] at q1 q2
          obtain ⟨-, q1⟩ := zt_s q1
          rw [← Option.some.inj q1, ← Option.some.inj q2]
          exact ⟨z1, Or.inr rfl, fun _ => ⟨rfl, rfl, Q5.1, Q5.2.2.2⟩⟩
        · rw [if_neg d] at q1 q2
          have fb : f < cF ∧ 0 ≤ f + 1 ∧ f + 1 ≤ cF := ⟨Int32.not_le.mp d, (zN14 Q1.1 (Int32.not_le.mp d) (Int32.le_trans T.1.2.2 (by decide))).2.2.2.2⟩
          by_cases e : f = fin
          · rw [if_pos e] at q1 q2
            refine hb2 _ _ _ _ ?_ q1 q2
            exact ⟨fb.2, rfl, rfl, rfl, Q5⟩
          · rw [if_neg e] at q1 q2
            obtain ⟨hw, hhw, q1⟩ := zb_s q1
            obtain ⟨hy, hhy, q2⟩ := zb_s q2
            obtain ⟨y1, y2, y3⟩ := zHalveW T G R lf ⟨Q1.1, fb.1⟩ Q5 rfl rfl hhw hhy
            refine hb2 _ _ _ _ ?_ q1 q2
            exact ⟨fb.2, rfl, y1, y2, y3⟩
    · rw [if_neg c] at ho
      obtain ⟨-, ho⟩ := zg_s ho
      obtain ⟨t2, ht2, ho⟩ := zb_s ho
      have tg := zTrG hN ht2
      have kf : k < fr.1 := Int32.not_le.mp c
      have kb : (0 ≤ k ∧ k < 100000) ∧ 0 ≤ k + 1 ∧ k + 1 ≤ fr.1 := ⟨(zN14 H1.1 kf f14.2).1, (zN14 H1.1 kf f14.2).2.2.2.2⟩
      -- the k-th FREE GROUP
      obtain ⟨gn, n1, n2, n3⟩ := zct_sj (b := fun g => decide (gfx g = (-1))) gc.toNatClampNeg (by have := z14' gc14.1 gc14.2; omega) k H1.1 (by rw [show zct (fun g => decide (gfx g = (-1))) gc.toNatClampNeg = fr.1 from ef]; exact kf)
      obtain ⟨a1, a2, a3⟩ := zof gc14.1 n1
      have fg : gfx (Int32.ofNat gn).toNatClampNeg = (-1) := by rw [a3]; exact of_decide_eq_true n2
      have ek : zFg gfx (Int32.ofNat gn).toNatClampNeg = k := by rw [a3]; exact n3
      obtain ⟨j, j0, j1, j2, j3⟩ := zLead hN.2 G a1 a2
      have ej : fr.2 k.toNatClampNeg = j := by
        have l := lf.2 j j0 j1 j2 (by rw [j3]; exact fg)
        have e9 : zFg gfx (zRk mG j.toNatClampNeg).toNatClampNeg = zFk gfx mG j.toNatClampNeg := zFreeC gfx mG j.toNatClampNeg (z14' j0 (Int32.le_trans (Int32.le_of_lt j1) hN.2.2))
        rw [← e9, j3, ek] at l
        exact l
      have gj : gof j.toNatClampNeg = Int32.ofNat gn := by rw [G.1.2.1 j j0 j1, j2, j3]
      have same : ∀ i : Int32, 0 ≤ i → i < cN → (mG i.toNatClampNeg = fr.2 k.toNatClampNeg ↔ gof i.toNatClampNeg = Int32.ofNat gn) := by
        intro i i0 i1
        have e := zGp_eq hN.2.2 T.2.2.2.2.2.2.2.2 G ⟨i0, i1⟩ ⟨j0, j1⟩
        rw [gj, j2] at e
        rw [ej]
        exact e.symm
      refine hb _ _ ?_ ho
      refine ⟨kb.2, fun i i0 i1 => ⟨fun q w => ?_, fun q => ?_⟩, fun l l0 l1 => ?_⟩
      · show t2 i.toNatClampNeg = fin
        rw [tg i i0 i1]
        by_cases v : mG i.toNatClampNeg = fr.2 k.toNatClampNeg
        · rw [if_pos v]
        · rw [if_neg v]
          rcases zlt1 kb.1 w with u | u
          · obtain ⟨b1, b2⟩ := gr i i0 i1
            exact absurd ((same i i0 i1).mpr (zFg_ne gc14.2 ⟨b1.1, b2⟩ ⟨a1, a2⟩ q fg (u.trans ek.symm))) v
          · exact (H2 i i0 i1).1 q u
      · show t2 i.toNatClampNeg = mH i.toNatClampNeg
        rw [tg i i0 i1, if_neg (fun v => q (by rw [(same i i0 i1).mp v]; exact fg))]
        exact (H2 i i0 i1).2 q
      · show upd hc k.toNatClampNeg (vp_nar .boolean 0) l.toNatClampNeg = 0
        rw [zup H1.1 l0]
        rcases zlt1 kb.1 l1 with u | u
        · rw [if_pos u]; exact znar.2
        · rw [if_neg (fun v => by rw [v] at u; exact absurd u Int32.lt_irrefl)]; exact H3 l l0 u
  · exact absurd w (Int32.not_lt.mpr (zct_b32 (b := fun g => decide (gfx g = (-1))) (gr i i0 i1).1.1 (Int32.le_of_lt (gr i i0 i1).1.2)).1)
/-- what is kept of it, while the TASK stays: a run of the class's own -/
noncomputable def zLC (cF cc cN gc gcl : Int32) (gof gfx stp mst prc al made amt op : Nat → Int32) (rlo rhi : Nat → Int64) (rd st pr ts : Int32) (row : Nat → Int32) : Prop := rd = 0 ∨ ∃ (vSt vPs vPr vTs vFa vRs : Int32) (vRw vCd vUn vPf vPt : Nat → Int32) (vRe : Nat → Int64) (o : Int32 × Int32 × Int32 × Int32 × Int32 × Int32 × (Nat → Int32) × (Nat → Int32) × Int32 × Int32 × (Nat → Int64) × (Nat → Int32) × (Nat → Int32) × (Nat → Int32)), fn_X3_goByHalves 0 vSt vPs vPr vTs cF cc cN gc gcl stp vRw gfx vCd vFa vRs gof op made vRe amt rlo rhi mst al prc vUn vPf vPt = some o ∧ st = o.1 ∧ pr = o.2.1 ∧ ts = o.2.2.1 ∧ row = o.2.2.2.2.2.2.1
theorem zGoS {cF cc cN gc gcl vSt vPs vPr vTs vFa vRs : Int32} {stp mst prc al made amt op gof gfx vRw vCd vUn vPf vPt : Nat → Int32} {rlo rhi vRe : Nat → Int64} {x : Int32 × Int32 × Int32 × Int32 × Int32 × Int32 × (Nat → Int32) × (Nat → Int32) × Int32 × Int32 × (Nat → Int64) × (Nat → Int32) × (Nat → Int32) × (Nat → Int32)} (hN : 0 ≤ cN) (cl : 0 < cN ∧ gcl = 0) (h1 : fn_X3_goByHalves 0 vSt vPs vPr vTs cF cc cN gc gcl stp vRw gfx vCd vFa vRs gof op made vRe amt rlo rhi mst al prc vUn vPf vPt = some x) : x.2.2.2.2.1 = x.1 := by
  unfold fn_X3_goByHalves at h1
  rw [zHasC hN, zb_some, if_neg (by rw [zif1]; exact fun q => q cl), if_pos rfl] at h1
  obtain ⟨fin, -, h1⟩ := zb_s h1
  obtain ⟨r0, -, h1⟩ := zb_s h1
  obtain ⟨k9, cd0, h1, -⟩ := zCopyK (c := 14) (so := fun _ => vp_nar .boolean 0) ⟨by decide, by decide⟩ h1
  try dsimp only at h1
  obtain ⟨rk, -, h1⟩ := zb_s h1
  obtain ⟨p, -, h1⟩ := zb_s h1
  refine zl_ip (P := fun x : Int32 × Int32 × Int32 × Int32 × Int32 × Int32 × (Nat → Int32) × (Nat → Int32) × Int32 × Int32 × (Nat → Int64) × (Nat → Int32) × (Nat → Int32) × (Nat → Int32) => x.2.2.2.2.1 = x.1) (fun _ => True) ?_ _ _ _ trivial h1
  intro s back o _ hb ho
  by_cases z : rk.1 = 0
  · rw [if_pos z] at ho
    obtain ⟨-, ho⟩ := zt_s ho
    rw [← Option.some.inj ho]
  · rw [if_neg z] at ho
    by_cases d : cF ≤ s.1
    · rw [if_pos d] at ho
      obtain ⟨-, ho⟩ := zt_s ho
      rw [← Option.some.inj ho]
    · rw [if_neg d] at ho
      by_cases e : s.1 = fin
      · rw [if_pos e] at ho
        exact hb _ _ trivial ho
      · rw [if_neg e] at ho
        obtain ⟨w, -, ho⟩ := zb_s ho
        exact hb _ _ trivial ho
theorem zGo {cF cc cN gc gcl vRd vSt vPs vPr vTs vFa vRs : Int32} {stp mst prc al made amt op gof gfx vRw vCd vUn vPf vPt : Nat → Int32} {rlo rhi vRe : Nat → Int64} {x : Int32 × Int32 × Int32 × Int32 × Int32 × Int32 × (Nat → Int32) × (Nat → Int32) × Int32 × Int32 × (Nat → Int64) × (Nat → Int32) × (Nat → Int32) × (Nat → Int32)} (hN : 0 ≤ cN) (K : zLC cF cc cN gc gcl gof gfx stp mst prc al made amt op rlo rhi vRd vSt vPr vTs vRw) (h1 : fn_X3_goByHalves vRd vSt vPs vPr vTs cF cc cN gc gcl stp vRw gfx vCd vFa vRs gof op made vRe amt rlo rhi mst al prc vUn vPf vPt = some x) : zLC cF cc cN gc gcl gof gfx stp mst prc al made amt op rlo rhi x.2.2.2.1 x.2.2.2.2.1 x.2.1 x.2.2.1 x.2.2.2.2.2.2.1 ∧ (¬ (0 < cN ∧ gcl = 0) ∧ x.1 = 0 ∨ (0 < cN ∧ gcl = 0) ∧ zLC cF cc cN gc gcl gof gfx stp mst prc al made amt op rlo rhi 1 x.1 x.2.1 x.2.2.1 x.2.2.2.2.2.2.1) := by
  by_cases cl : 0 < cN ∧ gcl = 0
  · by_cases r : vRd = 0
    · rw [r] at h1
      have e := zGoS hN cl h1
      have k : ∀ v : Int32, zLC cF cc cN gc gcl gof gfx stp mst prc al made amt op rlo rhi v x.1 x.2.1 x.2.2.1 x.2.2.2.2.2.2.1 := fun v => Or.inr ⟨_, _, _, _, _, _, _, _, _, _, _, _, x, h1, rfl, rfl, rfl, rfl⟩
      exact ⟨by rw [e]; exact k _, Or.inr ⟨cl, k 1⟩⟩
    · have K1 : ∀ v : Int32, zLC cF cc cN gc gcl gof gfx stp mst prc al made amt op rlo rhi v vSt vPr vTs vRw := fun v => Or.inr (K.resolve_left r)
      unfold fn_X3_goByHalves at h1
      rw [zHasC hN, zb_some, if_neg (by rw [zif1]; exact fun q => q cl), if_neg r] at h1
      obtain ⟨-, h1⟩ := zt_s h1
      rw [← Option.some.inj h1]
      exact ⟨K1 _, Or.inr ⟨cl, K1 1⟩⟩
  · unfold fn_X3_goByHalves at h1
    rw [zHasC hN, zb_some, if_pos (by rw [zif1]; exact cl)] at h1
    rw [← Option.some.inj h1]
    exact ⟨K, Or.inl ⟨cl, rfl⟩⟩
/-- what is kept, against the reference's own -/
theorem zLC_eq {cF cc cN inp gc gfr gcl mHh mFa mFw mSc mTs : Int32} {nF nN stp mst prc al made amt op fx jn lets gof gfx gld rwd hand mF mN mCst mNF mNN mS mM mC mW mO m1 m2 mX mG mH mTr mFr mSo mHc mRw mPf mPm : Nat → Int32} {rlo rhi mA mB mLe mGe mEr : Nat → Int64} {mWb : Int64} {st pr ts : Int32} {row : Nat → Int32} {y : Int32 × Int32 × Int32 × Int32 × Int32 × Int32 × Int32 × (Nat → Int32) × (Nat → Int32) × (Nat → Int32) × (Nat → Int64) × (Nat → Int64) × (Nat → Int64) × (Nat → Int32) × (Nat → Int32) × (Nat → Int32) × (Nat → Int32)} (T : zTN cF cc cN inp nF nN stp mst prc al made amt op fx jn lets mF mN mNF mNN mS mM mC mW mCst mO m1 m2 mX mG mA mB) (G : zGp cN gc gfr gcl gof gfx gld fx mG) (R : zRN cN (-1) 0 op made amt rwd rlo rhi) (H : zHN cN cF gcl mHh gof gfx hand mH) (cl : 0 < cN ∧ gcl = 0) (K : zLC cF cc cN gc gcl gof gfx stp mst prc al made amt op rlo rhi 1 st pr ts row) (h2 : fn_X12_halve mWb mHh mFa mFw mSc mTs mN mG mX mFr mF mS mH mTr mHc mO m1 m2 mLe mA mB mGe mEr mM mW mSo mCst mC mRw mPf mPm = some y) : st = y.1 ∧ (y.1 = 0 ∨ y.1 = 1) ∧ (y.1 = 1 → pr = y.2.2.2.2.2.1 ∧ ts = y.2.2.2.2.2.2.1 ∧ zCh cN cF gof row y.2.2.2.2.2.2.2.2.2.2.2.2.2.1 ∧ ∀ g : Int32, 0 ≤ g → g < gc → ¬ gfx g.toNatClampNeg = (-1) → row g.toNatClampNeg = gfx g.toNatClampNeg) := by
  rcases K with K | ⟨a1, a2, a3, a4, a5, a6, b1, b2, b3, b4, b5, b6, o, ho, e1, e2, e3, e4⟩
  · exact absurd K (by decide)
  · obtain ⟨z1, z2, z3⟩ := zHalve T G R H cl ho h2
    rw [e1, e2, e3, e4]
    exact ⟨z1, z2, z3⟩
theorem zHalfNo {cF cc cN inp gcl mHh mFa mFw mSc mTs : Int32} {nF nN stp mst prc al made amt op fx jn lets gof gfx hand mF mN mCst mNF mNN mS mM mC mW mO m1 m2 mX mG mH mTr mFr mSo mHc mRw mPf mPm : Nat → Int32} {mA mB mLe mGe mEr : Nat → Int64} {mWb : Int64} {y : Int32 × Int32 × Int32 × Int32 × Int32 × Int32 × Int32 × (Nat → Int32) × (Nat → Int32) × (Nat → Int32) × (Nat → Int64) × (Nat → Int64) × (Nat → Int64) × (Nat → Int32) × (Nat → Int32) × (Nat → Int32) × (Nat → Int32)} (T : zTN cF cc cN inp nF nN stp mst prc al made amt op fx jn lets mF mN mNF mNN mS mM mC mW mCst mO m1 m2 mX mG mA mB) (H : zHN cN cF gcl mHh gof gfx hand mH) (cl : ¬ (0 < cN ∧ gcl = 0)) (h2 : fn_X12_halve mWb mHh mFa mFw mSc mTs mN mG mX mFr mF mS mH mTr mHc mO m1 m2 mLe mA mB mGe mEr mM mW mSo mCst mC mRw mPf mPm = some y) : y.1 = 0 := by
  have hN := T.2.1
  unfold fn_X12_halve at h2
  obtain ⟨fr, -, h2⟩ := zb_s h2
  rw [zIsTh ⟨hN.1, hN.2.1⟩ H, zb_some, if_pos (by rw [zif1]; exact cl)] at h2
  rw [← Option.some.inj h2]
set_option maxHeartbeats 4000000 in
theorem zeq_halves {cF cc cN inp gc gfr gcl mHh mFn mWn mFa mFw mSc mTs vRd vSt vPs vPr vTs vFa vRs : Int32} {nF nN stp mst prc al made amt op fx jn lets gof gfx gld rwd hand mF mN mCst mNF mNN mS mM mC mW mO m1 m2 mX mG mH mTr mFr mSo mHc mRw mPf mPm vRw vCd vUn vPf vPt : Nat → Int32} {rlo rhi mA mB mLe mGe mEr vRe : Nat → Int64} {mWb : Int64} {p1 : Int32} {x : Int32 × Int32 × Int32 × Int32 × Int32 × Int32 × (Nat → Int32) × (Nat → Int32) × Int32 × Int32 × (Nat → Int64) × (Nat → Int32) × (Nat → Int32) × (Nat → Int32)} {y : Int32 × Int32 × Int32 × Int32 × Int32 × Int32 × Int32 × (Nat → Int32) × (Nat → Int32) × (Nat → Int32) × (Nat → Int64) × (Nat → Int64) × (Nat → Int64) × (Nat → Int32) × (Nat → Int32) × (Nat → Int32) × (Nat → Int32)} (T : zTN cF cc cN inp nF nN stp mst prc al made amt op fx jn lets mF mN mNF mNN mS mM mC mW mCst mO m1 m2 mX mG mA mB) (G : zGp cN gc gfr gcl gof gfx gld fx mG) (R : zRN cN (-1) 0 op made amt rwd rlo rhi) (H : zHN cN cF gcl mHh gof gfx hand mH) (K : zLC cF cc cN gc gcl gof gfx stp mst prc al made amt op rlo rhi vRd vSt vPr vTs vRw) (h1 : fn_X11_halves p1 vRd vSt vPs vPr vTs cF cc cN gc gcl stp vRw gfx vCd vFa vRs gof op made vRe amt rlo rhi mst al prc vUn vPf vPt = some x) (h2 : fn_X12_halves p1 mFn mWn mWb mHh mFa mFw mSc mTs mN mG mX mFr mF mS mH mTr mHc mO m1 m2 mLe mA mB mGe mEr mM mW mSo mCst mC mRw mPf mPm = some y) : x.1 = y.1 := by
  have hN := T.2.1
  unfold fn_X11_halves at h1
  unfold fn_X12_halves at h2
  obtain ⟨a, ha, h1⟩ := zb_s h1
  obtain ⟨-, ga⟩ := zGo hN.2.1 K ha
  obtain ⟨j, ej, h2⟩ := zj_g h2
  have no : a.1 = 0 → x.1 = (-1) := by
    intro z
    rw [if_pos z] at h1
    rw [← Option.some.inj h1]
  have go : (p1 = (-1) ∨ p1 = (-2) ∨ (0 ≤ p1 ∧ p1 < cN)) → j () = some y → x.1 = y.1 := by
    intro hp hj
    have hj := zj_s ej hj
    obtain ⟨b, hb, hj⟩ := zb_s hj
    rcases ga with ⟨g1, g2⟩ | ⟨g1, g2⟩
    · rw [if_pos (zHalfNo T H g1 hb)] at hj
      rw [no g2, ← Option.some.inj hj]
    · obtain ⟨z1, z2, z3⟩ := zLC_eq T G R H g1 g2 hb
      rcases z2 with z | z
      · rw [if_pos z] at hj
        rw [no (z1.trans z), ← Option.some.inj hj]
      · obtain ⟨w1, w2, w3, -⟩ := z3 z
        have a0 : ¬ a.1 = 0 := by rw [z1, z]; decide
        rw [if_neg (show ¬ b.1 = 0 by rw [z]; decide)] at hj
        rw [if_neg a0] at h1
        by_cases e2 : p1 = (-2)
        · have e1 : ¬ p1 = (-1) := by rw [e2]; decide
          rw [if_pos e2] at h1
          rw [if_neg e1, if_pos e2] at hj
          rw [← Option.some.inj h1, ← Option.some.inj hj]
          exact w2
        · rw [if_neg e2] at h1
          by_cases e1 : p1 = (-1)
          · rw [if_pos e1] at h1 hj
            rw [← Option.some.inj h1, ← Option.some.inj hj]
            exact w1
          · have hi : 0 ≤ p1 ∧ p1 < cN := (hp.resolve_left e1).resolve_left e2
            rw [if_neg e1, zHasN, zb_some, if_neg (by rw [zif1]; exact fun q => q hi), zFmtOf hN.2.2 w3 hi, zb_some] at h1
            rw [if_neg e1, if_neg e2] at hj
            obtain ⟨-, hj⟩ := zg_s hj
            rw [← Option.some.inj h1, ← Option.some.inj hj]
  by_cases e1 : p1 = (-1)
  · rw [if_pos e1] at h2
    exact go (Or.inl e1) h2
  · rw [if_neg e1] at h2
    by_cases e2 : p1 = (-2)
    · rw [if_pos e2] at h2
      exact go (Or.inr (Or.inl e2)) h2
    · rw [if_neg e2, zIsNum (by rw [hN.1]; exact hN.2.1), zb_some, hN.1] at h2
      by_cases hi : 0 ≤ p1 ∧ p1 < cN
      · rw [if_neg (by rw [zif1]; exact fun q => q hi)] at h2
        exact go (Or.inr (Or.inr hi)) h2
      · rw [if_pos (by rw [zif1]; exact hi)] at h2
        rw [← Option.some.inj h2]
        by_cases a0 : a.1 = 0
        · exact no a0
        · rw [if_neg a0, if_neg e2, if_neg e1, zHasN, zb_some, if_pos (by rw [zif1]; exact hi)] at h1
          rw [← Option.some.inj h1]
theorem zlc_halves {cF cc cN gc gcl vRd vSt vPs vPr vTs vFa vRs : Int32} {stp mst prc al made amt op gof gfx vRw vCd vUn vPf vPt : Nat → Int32} {rlo rhi vRe : Nat → Int64} {p1 : Int32} {x : Int32 × Int32 × Int32 × Int32 × Int32 × Int32 × (Nat → Int32) × (Nat → Int32) × Int32 × Int32 × (Nat → Int64) × (Nat → Int32) × (Nat → Int32) × (Nat → Int32)} (hN : 0 ≤ cN) (K : zLC cF cc cN gc gcl gof gfx stp mst prc al made amt op rlo rhi vRd vSt vPr vTs vRw) (h1 : fn_X11_halves p1 vRd vSt vPs vPr vTs cF cc cN gc gcl stp vRw gfx vCd vFa vRs gof op made vRe amt rlo rhi mst al prc vUn vPf vPt = some x) : zLC cF cc cN gc gcl gof gfx stp mst prc al made amt op rlo rhi x.2.2.2.1 x.2.2.2.2.1 x.2.1 x.2.2.1 x.2.2.2.2.2.2.1 := by
  unfold fn_X11_halves at h1
  obtain ⟨a, ha, h1⟩ := zb_s h1
  obtain ⟨f, -⟩ := zGo hN K ha
  by_cases z : a.1 = 0
  · rw [if_pos z] at h1; rw [← Option.some.inj h1]; exact f
  · rw [if_neg z] at h1
    by_cases w : p1 = (-2)
    · rw [if_pos w] at h1; rw [← Option.some.inj h1]; exact f
    · rw [if_neg w] at h1
      by_cases v : p1 = (-1)
      · rw [if_pos v] at h1; rw [← Option.some.inj h1]; exact f
      · rw [if_neg v] at h1
        obtain ⟨n, -, h1⟩ := zb_s h1
        by_cases u : n = 0
        · rw [if_pos u] at h1; rw [← Option.some.inj h1]; exact f
        · rw [if_neg u] at h1
          obtain ⟨k, -, h1⟩ := zb_s h1
          rw [← Option.some.inj h1]; exact f
/-! take -/
theorem zTakesT {cN : Int32} {mN mH : Nat → Int32} {t o : Nat → Int32} (hN : mN 0 = cN ∧ 0 ≤ cN ∧ cN ≤ 14) (h : fn_X12_takesTried mN t mH = some o) : ∀ i : Int32, 0 ≤ i → i < cN → o i.toNatClampNeg = t i.toNatClampNeg := by
  unfold fn_X12_takesTried at h
  rw [zn01.1, hN.1] at h
  obtain ⟨k, m, h, hm⟩ := zCopyK hN.2 h
  try dsimp only at h
  rw [← Option.some.inj h]
  exact hm
theorem zTakeM {cN mHh mFn mWn mFa mFw mSc mTs mS1 mS2 mS3 mS4 : Int32} {mF mN mCst mS mM mC mW mO m1 m2 mX mG mH mTr mFr mRf mSo mHc mRw mPf mPm : Nat → Int32} {mA mB mLe mGe mEr : Nat → Int64} {mWb : Int64} {p1 : Int32} {y : Int32 × Int32 × Int32 × Int32 × Int32 × Int32 × Int32 × Int32 × Int32 × Int32 × Int32 × (Nat → Int32) × (Nat → Int32) × (Nat → Int32) × (Nat → Int64) × (Nat → Int64) × (Nat → Int64) × (Nat → Int32) × (Nat → Int32) × (Nat → Int32) × (Nat → Int32) × (Nat → Int32) × (Nat → Int32)} (hN : mN 0 = cN ∧ 0 ≤ cN ∧ cN ≤ 14) (h2 : fn_X12_take p1 mFn mWn mWb mHh mFa mFw mSc mTs mS1 mS2 mS3 mS4 mN mG mX mFr mH mTr mCst m1 m2 mC mF mO mLe mA mB mGe mS mEr mM mW mHc mSo mRw mPf mPm mRf = some y) : ∃ b : Int32 × Int32 × Int32 × Int32 × Int32 × Int32 × Int32 × Int32 × Int32 × Int32 × Int32 × (Nat → Int32) × (Nat → Int32) × (Nat → Int64) × (Nat → Int64) × (Nat → Int64) × (Nat → Int32) × (Nat → Int32) × (Nat → Int32) × (Nat → Int32) × (Nat → Int32), fn_X12_canTake p1 mFn mWn mWb mHh mFa mFw mSc mTs mS1 mS2 mS3 mS4 mN mG mX mFr mH mTr mCst m1 m2 mC mF mO mLe mA mB mGe mS mEr mM mW mHc mSo mRw mPf mPm = some b ∧ (b.1 = 0 ∧ y.1 = (-1) ∧ y.2.2.2.2.2.2.2.2.2.2.2.2.1 = mH ∧ y.2.2.2.2.2.2.2.2.2.2.2.2.2.2.2.2.2.2.2.2.2.2 = upd mRf (2 : Int32).toNatClampNeg (mRf (2 : Int32).toNatClampNeg + 1) ∨ ¬ b.1 = 0 ∧ (∀ i : Int32, 0 ≤ i → i < cN → y.2.2.2.2.2.2.2.2.2.2.2.2.1 i.toNatClampNeg = b.2.2.2.2.2.2.2.2.2.2.2.2.1 i.toNatClampNeg) ∧ fn_X12_costTried mCst mN m1 (b.2.2.2.2.2.2.2.2.2.2.2.2.1) m2 mC = some y.1 ∧ y.2.2.2.2.2.2.2.2.2.2.2.2.2.2.2.2.2.2.2.2.2.2 = mRf) := by
  unfold fn_X12_take at h2
  obtain ⟨b, hb, h2⟩ := zb_s h2
  refine ⟨b, hb, ?_⟩
  by_cases c : b.1 = 0
  · rw [if_pos c] at h2
    obtain ⟨r, hr, h2⟩ := zb_s h2
    have er := zrefM hr
    rw [← Option.some.inj h2, er]
    exact Or.inl ⟨c, rfl, rfl, rfl⟩
  · rw [if_neg c] at h2
    obtain ⟨t, ht, h2⟩ := zb_s h2
    obtain ⟨w, hw, h2⟩ := zb_s h2
    rw [← Option.some.inj h2]
    exact Or.inr ⟨c, zTakesT hN ht, hw, rfl⟩
theorem zGc1 {gc : Int32} (hg : 0 ≤ gc ∧ gc ≤ 14) : (-1) ≤ gc - 1 ∧ gc - 1 < gc := by grind
theorem zGc2 {gc g : Int32} (hg : 0 ≤ gc ∧ gc ≤ 14) (h : g < gc) : ¬ gc - 1 < g := by grind
set_option maxHeartbeats 4000000 in
theorem zUnfX {c cF gc : Int32} {gfx into row : Nat → Int32} (hg : 0 ≤ gc ∧ gc ≤ 14) (h : fn_X1_unfold c cF gc gfx into = some row) : ∀ g : Int32, 0 ≤ g → g < gc → ¬ gfx g.toNatClampNeg = (-1) → row g.toNatClampNeg = gfx g.toNatClampNeg := by
  unfold fn_X1_unfold at h
  refine zl_ip (P := fun row : Nat → Int32 => ∀ g : Int32, 0 ≤ g → g < gc → ¬ gfx g.toNatClampNeg = (-1) → row g.toNatClampNeg = gfx g.toNatClampNeg) (fun s => ((-1) ≤ s.2.1 ∧ s.2.1 < gc) ∧ ∀ g : Int32, 0 ≤ g → g < gc → s.2.1 < g → ¬ gfx g.toNatClampNeg = (-1) → s.2.2 g.toNatClampNeg = gfx g.toNatClampNeg) ?_ _ _ _ ?_ h
  rotate_left
  · exact ⟨⟨(zGc1 hg).1, (zGc1 hg).2⟩, fun g g0 g1 g2 => absurd g2 (zGc2 hg g1)⟩
  intro s back o ⟨H1, H2⟩ hb ho
  obtain ⟨r, k, w⟩ := s
  dsimp only at H1 H2 ho
  by_cases d : k < 0
  · rw [if_pos d] at ho
    rw [← Option.some.inj ho]
    exact fun g g0 g1 => H2 g g0 g1 (Int32.lt_of_lt_of_le d g0)
  · rw [if_neg d] at ho
    have k0 : 0 ≤ k := Int32.not_lt.mp d
    have kb : (-1) ≤ k + (-1) ∧ k + (-1) < gc ∧ ∀ g : Int32, k + (-1) < g → g = k ∨ k < g := ⟨(zDn1 k0 H1.2 hg.2).1, (zDn1 k0 H1.2 hg.2).2, fun g q => zDn2 k0 (Int32.le_trans (zN14 k0 H1.2 hg.2).2.2.1 (by decide)) q⟩
    obtain ⟨-, ho⟩ := zg_s ho
    have ho := zn_s ho rfl
    have nxt : ∀ (r2 : Int32) (w2 : Nat → Int32), (∀ g : Int32, 0 ≤ g → ¬ g = k → w2 g.toNatClampNeg = w g.toNatClampNeg) → (¬ gfx k.toNatClampNeg = (-1) → w2 k.toNatClampNeg = gfx k.toNatClampNeg) → back (r2, k + (-1), w2) = some o → ∀ g : Int32, 0 ≤ g → g < gc → ¬ gfx g.toNatClampNeg = (-1) → o g.toNatClampNeg = gfx g.toNatClampNeg := by
      intro r2 w2 e1 e2 hk
      refine hb _ _ ?_ hk
      refine ⟨⟨kb.1, kb.2.1⟩, fun g g0 g1 g2 g3 => ?_⟩
      show w2 g.toNatClampNeg = gfx g.toNatClampNeg
      rcases kb.2.2 g g2 with q | q
      · rw [q] at g3 ⊢; exact e2 g3
      · rw [e1 g g0 (fun z => by rw [z] at q; exact absurd q Int32.lt_irrefl)]
        exact H2 g g0 g1 q g3
    have u1 : ∀ g : Int32, 0 ≤ g → ¬ g = k → upd w k.toNatClampNeg (gfx k.toNatClampNeg) g.toNatClampNeg = w g.toNatClampNeg := fun g g0 q => by rw [zup k0 g0, if_neg q]
    have u2 : upd w k.toNatClampNeg (gfx k.toNatClampNeg) k.toNatClampNeg = gfx k.toNatClampNeg := by rw [zup k0 k0, if_pos rfl]
    by_cases e : gfx k.toNatClampNeg = (-1)
    · rw [if_pos e] at ho
      by_cases f : cF ≤ 0
      · rw [if_pos f] at ho
        exact nxt _ _ u1 (fun _ => u2) ho
      · rw [if_neg f] at ho
        obtain ⟨-, ho⟩ := zd_s ho
        have ho := zn_s ho rfl
        obtain ⟨-, ho⟩ := zd_s ho
        exact nxt _ _ (fun g g0 q => by rw [zup k0 g0, if_neg q]; exact u1 g g0 q) (fun q => absurd e q) ho
    · rw [if_neg e] at ho
      exact nxt _ _ u1 (fun _ => u2) ho
/-- the cheapest CHOICE, taken by both -/
theorem zTake0 {cF cc cN inp gc gfr gcl mHh mFn mWn mFa mFw mSc mTs mS1 mS2 mS3 mS4 uRd uAn uMn uBs uBp uFa uRs : Int32} {nF nN stp mst prc al made amt op fx jn lets gof gfx gld rwd hand mF mN mCst mNF mNN mS mM mC mW mO m1 m2 mX mG mH mTr mFr mSo mHc mRw mPf mPm uP uE uFp uFe uFm uCh : Nat → Int32} {rlo rhi mA mB mLe mGe mEr uRe : Nat → Int64} {mWb : Int64} {nQP nQE nQ3 nQ4 nQ5 : Nat} {a : Int32 × Int32 × Int32 × Int32 × Int32 × Int32 × (Nat → Int32) × Nat × (Nat → Int32) × Nat × (Nat → Int32) × Nat × (Nat → Int32) × Nat × (Nat → Int32) × Nat × (Nat → Int32) × Int32 × Int32 × (Nat → Int64) × (Nat → Int32)} {b : Int32 × Int32 × Int32 × Int32 × Int32 × Int32 × Int32 × Int32 × Int32 × Int32 × Int32 × (Nat → Int32) × (Nat → Int32) × (Nat → Int64) × (Nat → Int64) × (Nat → Int64) × (Nat → Int32) × (Nat → Int32) × (Nat → Int32) × (Nat → Int32) × (Nat → Int32)} (T : zTN cF cc cN inp nF nN stp mst prc al made amt op fx jn lets mF mN mNF mNN mS mM mC mW mCst mO m1 m2 mX mG mA mB) (G : zGp cN gc gfr gcl gof gfx gld fx mG) (R : zRN cN (-1) 0 op made amt rwd rlo rhi) (H : zHN cN cF gcl mHh gof gfx hand mH) (F : zFC cF cc cN gc gfr gcl gof gfx stp mst prc al made amt op rlo rhi uRd uAn uMn uBs uBp uP nQP uE nQE) (h1 : fn_X11_takeCheapest uRd uAn uMn uBs uBp cF cc cN gc gfr gcl al nQP uP nQE uE nQ4 uFe nQ3 uFp nQ5 uFm gfx uCh uFa uRs gof stp op made uRe amt rlo rhi mst prc hand = some a) (h2 : fn_X12_canTake 0 mFn mWn mWb mHh mFa mFw mSc mTs mS1 mS2 mS3 mS4 mN mG mX mFr mH mTr mCst m1 m2 mC mF mO mLe mA mB mGe mS mEr mM mW mHc mSo mRw mPf mPm = some b) : zFC cF cc cN gc gfr gcl gof gfx stp mst prc al made amt op rlo rhi a.2.1 a.2.2.1 a.2.2.2.1 a.2.2.2.2.1 a.2.2.2.2.2.1 a.2.2.2.2.2.2.1 a.2.2.2.2.2.2.2.1 a.2.2.2.2.2.2.2.2.1 a.2.2.2.2.2.2.2.2.2.1 ∧ (a.1 = 0 ∧ b.1 = 0 ∧ a.2.2.2.2.2.2.2.2.2.2.2.2.2.2.2.2.2.2.2.2 = hand ∨ (¬ a.1 = 0 ∧ ¬ b.1 = 0) ∧ zCh cN cF gof a.2.2.2.2.2.2.2.2.2.2.2.2.2.2.2.2.2.2.2.2 b.2.2.2.2.2.2.2.2.2.2.2.2.1 ∧ ∀ g : Int32, 0 ≤ g → g < gc → ¬ gfx g.toNatClampNeg = (-1) → a.2.2.2.2.2.2.2.2.2.2.2.2.2.2.2.2.2.2.2.2 g.toNatClampNeg = gfx g.toNatClampNeg) := by
  have hN := T.2.1
  have gb := zRk_b (G := mG) (p := cN) hN.2.1 hN.2.2
  rw [← G.1.1] at gb
  have gc14 : 0 ≤ gc ∧ gc ≤ 14 := ⟨gb.1, Int32.le_trans gb.2 hN.2.2⟩
  unfold fn_X11_takeCheapest at h1
  unfold fn_X12_canTake at h2
  rw [if_pos rfl] at h2
  obtain ⟨s, hs, h1⟩ := zb_s h1
  obtain ⟨e, he, h2⟩ := zb_s h2
  obtain ⟨fs, ra⟩ := zSea T G F hs
  obtain ⟨re, e2, e3, e4⟩ := zCanS T G H he
  obtain ⟨j, ej, h2⟩ := zj_g h2
  rw [e2] at ej
  -- none in the class
  have cno : (s.1 = 0 ∨ s.2.2.2.2.1 = (-1)) → zFC cF cc cN gc gfr gcl gof gfx stp mst prc al made amt op rlo rhi a.2.1 a.2.2.1 a.2.2.2.1 a.2.2.2.2.1 a.2.2.2.2.2.1 a.2.2.2.2.2.2.1 a.2.2.2.2.2.2.2.1 a.2.2.2.2.2.2.2.2.1 a.2.2.2.2.2.2.2.2.2.1 ∧ a.1 = 0 ∧ a.2.2.2.2.2.2.2.2.2.2.2.2.2.2.2.2.2.2.2.2 = hand := by
    intro q
    by_cases z : s.1 = 0
    · rw [if_pos z] at h1
      rw [← Option.some.inj h1]
      exact ⟨fs, rfl, rfl⟩
    · rw [if_neg z, if_pos (q.resolve_left z)] at h1
      rw [← Option.some.inj h1]
      exact ⟨fs, rfl, rfl⟩
  -- none in the reference
  have mno : ∀ v, j ((-1), v) = some b → b.1 = 0 := by
    intro v hj
    have hj := zj_s ej hj
    try dsimp only at hj
    rw [if_pos rfl, if_pos rfl] at hj
    rw [← Option.some.inj hj]
  rcases re with ⟨r1, r2⟩ | ⟨r1, r2, r3⟩
  · rw [if_pos r1] at h2
    have b0 := mno _ h2
    have c := cno (by
      rcases ra with ⟨q, _⟩ | ⟨_, q2, q3⟩
      · exact Or.inl q
      · rcases q3 with ⟨_, _, w⟩ | ⟨w, _⟩
        · exact Or.inr w
        · exact absurd ⟨q2, w⟩ r2)
    exact ⟨c.1, Or.inl ⟨c.2.1, b0, c.2.2⟩⟩
  · rw [if_neg (show ¬ e.1 = 0 by rw [r1]; decide), e2] at h2
    obtain ⟨c, hc, h2⟩ := zb_s h2
    rcases ra with ⟨_, q⟩ | ⟨q1, _, q3⟩
    · exact absurd r2 q
    · rcases q3 with ⟨w, _⟩ | ⟨_, q, ok, pr, er, w1, w2, w3, w4, -, -⟩
      · exact absurd r3 w
      · have cl : 0 < cN ∧ gcl = 0 := ⟨r2.1, r3⟩
        have b14 : 0 ≤ e.2.1 ∧ e.2.1 ≤ 14 := by rw [e4]; exact (zGfr T G).1
        have w1' : q = zpw cF (e.2.1).toNatClampNeg := by rw [e4]; exact w1
        have ec := zCheapC T G R H cl e3 b14 ⟨w1', w4.1, w4.2⟩ w2 hc
        by_cases z : c.1 = (-1)
        · rw [z] at h2
          have b0 := mno _ h2
          have cc := cno (Or.inr (ec.symm.trans z))
          exact ⟨cc.1, Or.inl ⟨cc.2.1, b0, cc.2.2⟩⟩
        · have nb : ¬ s.2.2.2.2.1 = (-1) := fun y => z (ec.trans y)
          have h2 := zj_s ej h2
          try dsimp only at h2
          rw [if_neg z] at h2
          obtain ⟨t, ht, h2⟩ := zb_s h2
          rw [if_neg z] at h2
          rw [if_neg (show ¬ s.1 = 0 by rw [q1]; decide), if_neg nb] at h1
          obtain ⟨row, hrow, h1⟩ := zb_s h1
          rw [ec] at ht
          rcases w2.2.2.1 with ⟨b1, _⟩ | ⟨b1, _⟩
          · exact absurd b1 nb
          · have bq : 0 ≤ s.2.2.2.2.1 ∧ s.2.2.2.2.1 ≤ 1023 := ⟨b1.1, zK23 b1.2 w4.2⟩
            have C := zUnf T G H cl bq e3.1 e3.2 hrow ht
            rw [← Option.some.inj h1, ← Option.some.inj h2]
            exact ⟨fs, Or.inr ⟨⟨by show ¬ (1 : Int32) = 0; decide, by show ¬ (1 : Int32) = 0; decide⟩, C, zUnfX gc14 hrow⟩⟩
/-- the one BY HALVES -/
theorem zTake1 {cF cc cN inp gc gfr gcl mHh mFn mWn mFa mFw mSc mTs mS1 mS2 mS3 mS4 vRd vSt vPs vPr vTs vFa vRs : Int32} {nF nN stp mst prc al made amt op fx jn lets gof gfx gld rwd hand mF mN mCst mNF mNN mS mM mC mW mO m1 m2 mX mG mH mTr mFr mSo mHc mRw mPf mPm vRw vCd vUn vPf vPt : Nat → Int32} {rlo rhi mA mB mLe mGe mEr vRe : Nat → Int64} {mWb : Int64} {a : Int32 × Int32 × Int32 × Int32 × Int32 × Int32 × (Nat → Int32) × (Nat → Int32) × Int32 × Int32 × (Nat → Int64) × (Nat → Int32) × (Nat → Int32) × (Nat → Int32)} {b : Int32 × Int32 × Int32 × Int32 × Int32 × Int32 × Int32 × Int32 × Int32 × Int32 × Int32 × (Nat → Int32) × (Nat → Int32) × (Nat → Int64) × (Nat → Int64) × (Nat → Int64) × (Nat → Int32) × (Nat → Int32) × (Nat → Int32) × (Nat → Int32) × (Nat → Int32)} (T : zTN cF cc cN inp nF nN stp mst prc al made amt op fx jn lets mF mN mNF mNN mS mM mC mW mCst mO m1 m2 mX mG mA mB) (G : zGp cN gc gfr gcl gof gfx gld fx mG) (R : zRN cN (-1) 0 op made amt rwd rlo rhi) (H : zHN cN cF gcl mHh gof gfx hand mH) (K : zLC cF cc cN gc gcl gof gfx stp mst prc al made amt op rlo rhi vRd vSt vPr vTs vRw) (h1 : fn_X3_goByHalves vRd vSt vPs vPr vTs cF cc cN gc gcl stp vRw gfx vCd vFa vRs gof op made vRe amt rlo rhi mst al prc vUn vPf vPt = some a) (h2 : fn_X12_canTake 1 mFn mWn mWb mHh mFa mFw mSc mTs mS1 mS2 mS3 mS4 mN mG mX mFr mH mTr mCst m1 m2 mC mF mO mLe mA mB mGe mS mEr mM mW mHc mSo mRw mPf mPm = some b) : a.1 = 0 ∧ b.1 = 0 ∨ (¬ a.1 = 0 ∧ ¬ b.1 = 0) ∧ zCh cN cF gof a.2.2.2.2.2.2.1 b.2.2.2.2.2.2.2.2.2.2.2.2.1 ∧ ∀ g : Int32, 0 ≤ g → g < gc → ¬ gfx g.toNatClampNeg = (-1) → a.2.2.2.2.2.2.1 g.toNatClampNeg = gfx g.toNatClampNeg := by
  have hN := T.2.1
  obtain ⟨-, ga⟩ := zGo hN.2.1 K h1
  unfold fn_X12_canTake at h2
  rw [if_neg (by decide), if_pos rfl] at h2
  obtain ⟨c, hc, h2⟩ := zb_s h2
  rw [zn01.1, hN.1] at h2
  have hb : (c.1 = 0 → b.1 = 0) ∧ (¬ c.1 = 0 → ¬ b.1 = 0 ∧ ∀ i : Int32, 0 ≤ i → i < cN → b.2.2.2.2.2.2.2.2.2.2.2.2.1 i.toNatClampNeg = c.2.2.2.2.2.2.2.2.2.2.2.2.2.1 i.toNatClampNeg) := by
    refine zl_ip (P := fun b : Int32 × Int32 × Int32 × Int32 × Int32 × Int32 × Int32 × Int32 × Int32 × Int32 × Int32 × (Nat → Int32) × (Nat → Int32) × (Nat → Int64) × (Nat → Int64) × (Nat → Int64) × (Nat → Int32) × (Nat → Int32) × (Nat → Int32) × (Nat → Int32) × (Nat → Int32) => (c.1 = 0 → b.1 = 0) ∧ (¬ c.1 = 0 → ¬ b.1 = 0 ∧ ∀ i : Int32, 0 ≤ i → i < cN → b.2.2.2.2.2.2.2.2.2.2.2.2.1 i.toNatClampNeg = c.2.2.2.2.2.2.2.2.2.2.2.2.2.1 i.toNatClampNeg)) (fun s => (0 ≤ s.1 ∧ s.1 ≤ cN) ∧ (¬ c.1 = 0 → ∀ i : Int32, 0 ≤ i → i < s.1 → s.2 i.toNatClampNeg = c.2.2.2.2.2.2.2.2.2.2.2.2.2.1 i.toNatClampNeg)) ?_ _ _ _ ?_ h2
    rotate_left
    · exact ⟨⟨Int32.le_refl 0, hN.2.1⟩, fun _ i i0 i1 => absurd i1 (Int32.not_lt.mpr i0)⟩
    intro s back o ⟨H1, H2⟩ hk ho
    obtain ⟨k, r⟩ := s
    dsimp only at H1 H2 ho
    by_cases d : cN ≤ k
    · rw [if_pos d] at ho
      obtain ⟨-, ho⟩ := zt_s ho
      rw [Int32.le_antisymm H1.2 d] at H2
      rw [← Option.some.inj ho]
      exact ⟨fun q => q, fun q => ⟨q, H2 q⟩⟩
    · rw [if_neg d] at ho
      by_cases z : c.1 = 0
      · rw [if_pos z] at ho
        obtain ⟨-, ho⟩ := zt_s ho
        rw [← Option.some.inj ho]
        exact ⟨fun q => q, fun q => absurd z q⟩
      · rw [if_neg z] at ho
        obtain ⟨-, ho⟩ := zg_s ho
        have ho := zn_s ho rfl
        have kb : (0 ≤ k ∧ k < 100000) ∧ 0 ≤ k + 1 ∧ k + 1 ≤ cN := ⟨(zN14 H1.1 (Int32.not_le.mp d) hN.2.2).1, (zN14 H1.1 (Int32.not_le.mp d) hN.2.2).2.2.2.2⟩
        refine hk _ _ ?_ ho
        refine ⟨kb.2, fun q i i0 i1 => ?_⟩
        show upd r k.toNatClampNeg (c.2.2.2.2.2.2.2.2.2.2.2.2.2.1 k.toNatClampNeg) i.toNatClampNeg = c.2.2.2.2.2.2.2.2.2.2.2.2.2.1 i.toNatClampNeg
        rw [zup H1.1 i0]
        rcases zlt1 kb.1 i1 with w | w
        · rw [if_pos w, w]
        · rw [if_neg (fun v => by rw [v] at w; exact absurd w Int32.lt_irrefl)]; exact H2 z i i0 w
  rcases ga with ⟨g1, g2⟩ | ⟨g1, g2⟩
  · exact Or.inl ⟨g2, hb.1 (zHalfNo T H g1 hc)⟩
  · obtain ⟨z1, z2, z3⟩ := zLC_eq T G R H g1 g2 hc
    rcases z2 with z | z
    · exact Or.inl ⟨z1.trans z, hb.1 z⟩
    · obtain ⟨-, -, w3, w4⟩ := z3 z
      have c0 : ¬ c.1 = 0 := by rw [z]; decide
      obtain ⟨b1, b2⟩ := hb.2 c0
      exact Or.inr ⟨⟨by rw [z1]; exact c0, b1⟩, zCh_c w3 b2, w4⟩
/-- the best SINGLE change -/
theorem zTake2 {cF cc cN inp gc gfr gcl mHh mFn mWn mFa mFw mSc mTs mS1 mS2 mS3 mS4 vPa vCe vBg vBf vFa vRs : Int32} {nF nN stp mst prc al made amt op fx jn lets gof gfx gld rwd hand mF mN mCst mNF mNN mS mM mC mW mO m1 m2 mX mG mH mTr mFr mSo mHc mRw mPf mPm vNr : Nat → Int32} {rlo rhi mA mB mLe mGe mEr vRe : Nat → Int64} {mWb : Int64} {a : Int32 × Int32 × Int32 × Int32 × Int32 × (Nat → Int32) × (Nat → Int32) × Int32 × Int32 × (Nat → Int64)} {b : Int32 × Int32 × Int32 × Int32 × Int32 × Int32 × Int32 × Int32 × Int32 × Int32 × Int32 × (Nat → Int32) × (Nat → Int32) × (Nat → Int64) × (Nat → Int64) × (Nat → Int64) × (Nat → Int32) × (Nat → Int32) × (Nat → Int32) × (Nat → Int32) × (Nat → Int32)} (T : zTN cF cc cN inp nF nN stp mst prc al made amt op fx jn lets mF mN mNF mNN mS mM mC mW mCst mO m1 m2 mX mG mA mB) (G : zGp cN gc gfr gcl gof gfx gld fx mG) (R : zRN cN (-1) 0 op made amt rwd rlo rhi) (H : zHN cN cF gcl mHh gof gfx hand mH) (h1 : fn_X11_takeSingle cF cc cN gc gcl vPa vCe vBg vBf hand vNr made gof prc gfx vFa vRs stp op vRe amt rlo rhi mst al = some a) (h2 : fn_X12_canTake 2 mFn mWn mWb mHh mFa mFw mSc mTs mS1 mS2 mS3 mS4 mN mG mX mFr mH mTr mCst m1 m2 mC mF mO mLe mA mB mGe mS mEr mM mW mHc mSo mRw mPf mPm = some b) : a.1 = 0 ∧ b.1 = 0 ∧ a.2.2.2.2.2.1 = hand ∨ (¬ a.1 = 0 ∧ ¬ b.1 = 0) ∧ zCh cN cF gof a.2.2.2.2.2.1 b.2.2.2.2.2.2.2.2.2.2.2.2.1 ∧ ∀ i : Int32, 0 ≤ i → i < cN → ¬ gfx (gof i.toNatClampNeg).toNatClampNeg = (-1) → a.2.2.2.2.2.1 (gof i.toNatClampNeg).toNatClampNeg = gfx (gof i.toNatClampNeg).toNatClampNeg := by
  have hN := T.2.1
  have gb := zRk_b (G := mG) (p := cN) hN.2.1 hN.2.2
  rw [← G.1.1] at gb
  unfold fn_X11_takeSingle at h1
  unfold fn_X12_canTake at h2
  rw [if_neg (by decide), if_neg (by decide), if_pos rfl, zIsTh ⟨hN.1, hN.2.1⟩ H, zb_some] at h2
  rw [zHasC hN.2.1, zb_some] at h1
  by_cases cl : 0 < cN ∧ gcl = 0
  · rw [if_neg (by rw [zif1]; exact fun q => q cl)] at h1 h2
    obtain ⟨l, hl, h1⟩ := zb_s h1
    obtain ⟨f, hf, h1⟩ := zb_s h1
    obtain ⟨m, hm, h2⟩ := zb_s h2
    obtain ⟨th, hth, h2⟩ := zb_s h2
    obtain ⟨-, -, bg⟩ := zLook T G R H cl hl hm
    obtain ⟨C, Dx⟩ := H.2.2 cl.1 cl.2
    unfold fn_X2_isFree at hf
    rcases bg with ⟨q1, _, q3, _⟩ | ⟨q1, q2, q3, q4, q5, q6, q7, q8⟩
    · rw [if_pos (show l.2.2.1 < 0 by rw [q1]; decide)] at hf
      rw [if_pos (Option.some.inj hf).symm] at h1
      rw [if_pos q3, if_pos q3] at h2
      rw [← Option.some.inj h1, ← Option.some.inj h2]
      exact Or.inl ⟨rfl, rfl, rfl⟩
    · rw [if_neg (Int32.not_lt.mpr q1.1), if_neg (Int32.not_le.mpr q1.2)] at hf
      obtain ⟨-, hf⟩ := zg_s hf
      rw [if_pos q2] at hf
      rw [if_neg (show ¬ f = 0 by rw [← Option.some.inj hf]; decide)] at h1
      obtain ⟨-, h1⟩ := zg_s h1
      have n1 : ¬ m.2.2.2.2.2.2.1 = (-1) := fun z => by rw [z] at q3; exact absurd q3.1 (by decide)
      rw [if_neg n1] at h2
      obtain ⟨t, ht, h2⟩ := zb_s h2
      rw [if_neg n1] at h2
      have tr := zTrH hN hth
      have tg := zTrG hN ht
      have gj : gof (m.2.2.2.2.2.2.1).toNatClampNeg = l.2.2.1 := by rw [G.1.2.1 _ q3.1 q3.2, q4, q5]
      have C2 : zCh cN cF gof (upd hand (l.2.2.1).toNatClampNeg l.2.2.2.1) t := by
        refine zCh_g T G C q3 ⟨q7, q8⟩ (fun i i0 i1 => ?_) (fun i i0 i1 => ?_)
        · rw [gj, zup q1.1 i0]
        · rw [q4, tg i i0 i1, tr i i0 i1, q6]
      rw [← Option.some.inj h1, ← Option.some.inj h2]
      refine Or.inr ⟨⟨by show ¬ (1 : Int32) = 0; decide, by show ¬ (1 : Int32) = 0; decide⟩, C2, fun i i0 i1 i2 => ?_⟩
      show upd hand (l.2.2.1).toNatClampNeg l.2.2.2.1 (gof i.toNatClampNeg).toNatClampNeg = gfx (gof i.toNatClampNeg).toNatClampNeg
      rw [zup q1.1 (C i i0 i1).1.1, if_neg (fun z => i2 (by rw [z]; exact q2))]
      exact Dx i i0 i1 i2
  · rw [if_pos (by rw [zif1]; exact cl)] at h1 h2
    rw [← Option.some.inj h1, ← Option.some.inj h2]
    exact Or.inl ⟨rfl, rfl, rfl⟩
theorem zHN_up {cN cF gcl mHh : Int32} {gof gfx hand mH hand' mH' t : Nat → Int32} (H : zHN cN cF gcl mHh gof gfx hand mH) (C : zCh cN cF gof hand' t) (hm : ∀ i : Int32, 0 ≤ i → i < cN → mH' i.toNatClampNeg = t i.toNatClampNeg) (hx : ∀ i : Int32, 0 ≤ i → i < cN → ¬ gfx (gof i.toNatClampNeg).toNatClampNeg = (-1) → hand' (gof i.toNatClampNeg).toNatClampNeg = gfx (gof i.toNatClampNeg).toNatClampNeg) : zHN cN cF gcl mHh gof gfx hand' mH' := ⟨H.1, H.2.1, fun _ _ => ⟨zCh_c C hm, hx⟩⟩
set_option maxHeartbeats 8000000 in
theorem ztake {cF cc cN inp gc gfr gcl mHh mFn mWn mFa mFw mSc mTs mS1 mS2 mS3 mS4 uRd uAn uMn uBs uBp uFa uRs vRd vSt vPs vPr vTs vPa vCe vBg vBf vFa vRs : Int32} {nF nN stp mst prc al made amt op fx jn lets gof gfx gld rwd hand mF mN mCst mNF mNN mS mM mC mW mO m1 m2 mX mG mH mTr mFr mRf mSo mHc mRw mPf mPm rf uP uE uFp uFe uFm uCh vRw vCd vUn vPf vPt vNr : Nat → Int32} {rlo rhi mA mB mLe mGe mEr uRe vRe : Nat → Int64} {mWb : Int64} {nQP nQE nQ3 nQ4 nQ5 : Nat} {p1 : Int32} {x : Int32 × Int32 × Int32 × Int32 × Int32 × Int32 × Int32 × Int32 × Int32 × Int32 × (Nat → Int32) × (Nat → Int32) × Int32 × Int32 × (Nat → Int64) × (Nat → Int32) × (Nat → Int32) × (Nat → Int32) × (Nat → Int32) × (Nat → Int32) × Int32 × Int32 × Int32 × Int32 × Int32 × (Nat → Int32) × Nat × (Nat → Int32) × Nat × (Nat → Int32) × Nat × (Nat → Int32) × Nat × (Nat → Int32) × Nat × (Nat → Int32) × Int32 × Int32 × (Nat → Int64) × (Nat → Int32)} {y : Int32 × Int32 × Int32 × Int32 × Int32 × Int32 × Int32 × Int32 × Int32 × Int32 × Int32 × (Nat → Int32) × (Nat → Int32) × (Nat → Int32) × (Nat → Int64) × (Nat → Int64) × (Nat → Int64) × (Nat → Int32) × (Nat → Int32) × (Nat → Int32) × (Nat → Int32) × (Nat → Int32) × (Nat → Int32)} (T : zTN cF cc cN inp nF nN stp mst prc al made amt op fx jn lets mF mN mNF mNN mS mM mC mW mCst mO m1 m2 mX mG mA mB) (G : zGp cN gc gfr gcl gof gfx gld fx mG) (R : zRN cN (-1) 0 op made amt rwd rlo rhi) (H : zHN cN cF gcl mHh gof gfx hand mH) (F : zFC cF cc cN gc gfr gcl gof gfx stp mst prc al made amt op rlo rhi uRd uAn uMn uBs uBp uP nQP uE nQE) (K : zLC cF cc cN gc gcl gof gfx stp mst prc al made amt op rlo rhi vRd vSt vPr vTs vRw) (h1 : fn_X11_take p1 vRd vSt vPs vPr vTs vPa vCe vBg vBf cF cc cN gc gfr gcl stp vRw gfx vCd vFa vRs gof op made vRe amt rlo rhi mst al prc vUn vPf vPt hand vNr uRd uAn uMn uBs uBp nQP uP nQE uE nQ4 uFe nQ3 uFp nQ5 uFm uCh uFa uRs uRe rf = some x) (h2 : fn_X12_take p1 mFn mWn mWb mHh mFa mFw mSc mTs mS1 mS2 mS3 mS4 mN mG mX mFr mH mTr mCst m1 m2 mC mF mO mLe mA mB mGe mS mEr mM mW mHc mSo mRw mPf mPm mRf = some y) : x.1 = y.1 ∧ zHN cN cF gcl mHh gof gfx x.2.2.2.2.2.2.2.2.2.2.2.2.2.2.2.2.2.2.1 y.2.2.2.2.2.2.2.2.2.2.2.2.1 ∧ zFC cF cc cN gc gfr gcl gof gfx stp mst prc al made amt op rlo rhi x.2.2.2.2.2.2.2.2.2.2.2.2.2.2.2.2.2.2.2.2.1 x.2.2.2.2.2.2.2.2.2.2.2.2.2.2.2.2.2.2.2.2.2.1 x.2.2.2.2.2.2.2.2.2.2.2.2.2.2.2.2.2.2.2.2.2.2.1 x.2.2.2.2.2.2.2.2.2.2.2.2.2.2.2.2.2.2.2.2.2.2.2.1 x.2.2.2.2.2.2.2.2.2.2.2.2.2.2.2.2.2.2.2.2.2.2.2.2.1 x.2.2.2.2.2.2.2.2.2.2.2.2.2.2.2.2.2.2.2.2.2.2.2.2.2.1 x.2.2.2.2.2.2.2.2.2.2.2.2.2.2.2.2.2.2.2.2.2.2.2.2.2.2.1 x.2.2.2.2.2.2.2.2.2.2.2.2.2.2.2.2.2.2.2.2.2.2.2.2.2.2.2.1 x.2.2.2.2.2.2.2.2.2.2.2.2.2.2.2.2.2.2.2.2.2.2.2.2.2.2.2.2.1 ∧ zLC cF cc cN gc gcl gof gfx stp mst prc al made amt op rlo rhi x.2.2.2.2.2.2.2.1 x.2.2.2.2.2.2.2.2.1 x.2.1 x.2.2.1 x.2.2.2.2.2.2.2.2.2.2.1 ∧ (rf = mRf → x.2.2.2.2.2.2.2.2.2.2.2.2.2.2.2.2.2.2.2.2.2.2.2.2.2.2.2.2.2.2.2.2.2.2.2.2.2.2.2 = y.2.2.2.2.2.2.2.2.2.2.2.2.2.2.2.2.2.2.2.2.2.2) := by
  have hN := T.2.1
  have gr : ∀ i : Int32, 0 ≤ i → i < cN → 0 ≤ gof i.toNatClampNeg ∧ gof i.toNatClampNeg < gc := by
    intro i i0 i1
    obtain ⟨l1, l2, l3⟩ := T.2.2.2.2.2.2.2.2.1 i i0 i1
    have b1 := zRk_lt (G := mG) l1 (Int32.lt_of_le_of_lt l2 i1) hN.2.2 l3
    rw [← G.1.1, ← G.1.2.1 i i0 i1] at b1
    exact ⟨(zGofR hN.2.2 T.2.2.2.2.2.2.2.2 G ⟨i0, i1⟩).1, b1⟩
  obtain ⟨b, hb, hy⟩ := zTakeM hN h2
  clear h2
  unfold fn_X11_take at h1
  by_cases c0 : p1 = 0
  · rw [if_pos c0] at h1
    obtain ⟨a, ha, h1⟩ := zb_s h1
    rw [c0] at hb
    obtain ⟨f, z⟩ := zTake0 T G R H F ha hb
    rcases z with ⟨a0, b0, e⟩ | ⟨⟨a0, b0⟩, C, hx⟩
    · rw [if_pos a0] at h1
      obtain ⟨r, hr, h1⟩ := zb_s h1
      have er := zref (by decide) hr
      rcases hy with ⟨_, y1, y2, y3⟩ | ⟨y0, _⟩
      · rw [← Option.some.inj h1, er]
        exact ⟨y1.symm, by rw [y2]; show zHN cN cF gcl mHh gof gfx a.2.2.2.2.2.2.2.2.2.2.2.2.2.2.2.2.2.2.2.2 mH; rw [e]; exact H, f, K, fun q => by rw [y3, ← q]⟩
      · exact absurd b0 y0
    · rw [if_neg a0] at h1
      obtain ⟨w, hw, h1⟩ := zb_s h1
      rcases hy with ⟨y0, _⟩ | ⟨_, y1, y2, y3⟩
      · exact absurd y0 b0
      · rw [← Option.some.inj h1]
        exact ⟨zPriceEq T C hw y2, zHN_up H C y1 (fun i i0 i1 i2 => hx _ (gr i i0 i1).1 (gr i i0 i1).2 i2), f, K, fun q => by rw [y3, ← q]⟩
  · rw [if_neg c0] at h1
    obtain ⟨j, ej, h1⟩ := zj_g h1
    have no : ∀ s, j s = some x → s.1 = 0 → b.1 = 0 → s.2.2.2.2.2.2.2.2.2.2.2.2.1 = hand → zLC cF cc cN gc gcl gof gfx stp mst prc al made amt op rlo rhi s.2.2.2.2.2.2.2.1 s.2.2.2.2.2.2.2.2.1 s.2.1 s.2.2.1 s.2.2.2.2.2.2.2.2.2.2.2.2.2.2.2.2.2.2.1 → x.1 = y.1 ∧ zHN cN cF gcl mHh gof gfx x.2.2.2.2.2.2.2.2.2.2.2.2.2.2.2.2.2.2.1 y.2.2.2.2.2.2.2.2.2.2.2.2.1 ∧ zFC cF cc cN gc gfr gcl gof gfx stp mst prc al made amt op rlo rhi x.2.2.2.2.2.2.2.2.2.2.2.2.2.2.2.2.2.2.2.2.1 x.2.2.2.2.2.2.2.2.2.2.2.2.2.2.2.2.2.2.2.2.2.1 x.2.2.2.2.2.2.2.2.2.2.2.2.2.2.2.2.2.2.2.2.2.2.1 x.2.2.2.2.2.2.2.2.2.2.2.2.2.2.2.2.2.2.2.2.2.2.2.1 x.2.2.2.2.2.2.2.2.2.2.2.2.2.2.2.2.2.2.2.2.2.2.2.2.1 x.2.2.2.2.2.2.2.2.2.2.2.2.2.2.2.2.2.2.2.2.2.2.2.2.2.1 x.2.2.2.2.2.2.2.2.2.2.2.2.2.2.2.2.2.2.2.2.2.2.2.2.2.2.1 x.2.2.2.2.2.2.2.2.2.2.2.2.2.2.2.2.2.2.2.2.2.2.2.2.2.2.2.1 x.2.2.2.2.2.2.2.2.2.2.2.2.2.2.2.2.2.2.2.2.2.2.2.2.2.2.2.2.1 ∧ zLC cF cc cN gc gcl gof gfx stp mst prc al made amt op rlo rhi x.2.2.2.2.2.2.2.1 x.2.2.2.2.2.2.2.2.1 x.2.1 x.2.2.1 x.2.2.2.2.2.2.2.2.2.2.1 ∧ (rf = mRf → x.2.2.2.2.2.2.2.2.2.2.2.2.2.2.2.2.2.2.2.2.2.2.2.2.2.2.2.2.2.2.2.2.2.2.2.2.2.2.2 = y.2.2.2.2.2.2.2.2.2.2.2.2.2.2.2.2.2.2.2.2.2.2) := by
      intro s hj s0 b0 e k
      have hj := zj_s ej hj
      rw [if_pos s0] at hj
      obtain ⟨r, hr, hj⟩ := zb_s hj
      have er := zref (by decide) hr
      rcases hy with ⟨_, y1, y2, y3⟩ | ⟨y0, _⟩
      · rw [← Option.some.inj hj, er]
        exact ⟨y1.symm, by rw [y2]; show zHN cN cF gcl mHh gof gfx s.2.2.2.2.2.2.2.2.2.2.2.2.1 mH; rw [e]; exact H, F, k, fun q => by rw [y3, ← q]⟩
      · exact absurd b0 y0
    have yes : ∀ s, j s = some x → ¬ s.1 = 0 → ¬ b.1 = 0 → zCh cN cF gof s.2.2.2.2.2.2.2.2.2.2.2.2.1 b.2.2.2.2.2.2.2.2.2.2.2.2.1 → (∀ i : Int32, 0 ≤ i → i < cN → ¬ gfx (gof i.toNatClampNeg).toNatClampNeg = (-1) → s.2.2.2.2.2.2.2.2.2.2.2.2.1 (gof i.toNatClampNeg).toNatClampNeg = gfx (gof i.toNatClampNeg).toNatClampNeg) → zLC cF cc cN gc gcl gof gfx stp mst prc al made amt op rlo rhi s.2.2.2.2.2.2.2.1 s.2.2.2.2.2.2.2.2.1 s.2.1 s.2.2.1 s.2.2.2.2.2.2.2.2.2.2.2.2.2.2.2.2.2.2.1 → x.1 = y.1 ∧ zHN cN cF gcl mHh gof gfx x.2.2.2.2.2.2.2.2.2.2.2.2.2.2.2.2.2.2.1 y.2.2.2.2.2.2.2.2.2.2.2.2.1 ∧ zFC cF cc cN gc gfr gcl gof gfx stp mst prc al made amt op rlo rhi x.2.2.2.2.2.2.2.2.2.2.2.2.2.2.2.2.2.2.2.2.1 x.2.2.2.2.2.2.2.2.2.2.2.2.2.2.2.2.2.2.2.2.2.1 x.2.2.2.2.2.2.2.2.2.2.2.2.2.2.2.2.2.2.2.2.2.2.1 x.2.2.2.2.2.2.2.2.2.2.2.2.2.2.2.2.2.2.2.2.2.2.2.1 x.2.2.2.2.2.2.2.2.2.2.2.2.2.2.2.2.2.2.2.2.2.2.2.2.1 x.2.2.2.2.2.2.2.2.2.2.2.2.2.2.2.2.2.2.2.2.2.2.2.2.2.1 x.2.2.2.2.2.2.2.2.2.2.2.2.2.2.2.2.2.2.2.2.2.2.2.2.2.2.1 x.2.2.2.2.2.2.2.2.2.2.2.2.2.2.2.2.2.2.2.2.2.2.2.2.2.2.2.1 x.2.2.2.2.2.2.2.2.2.2.2.2.2.2.2.2.2.2.2.2.2.2.2.2.2.2.2.2.1 ∧ zLC cF cc cN gc gcl gof gfx stp mst prc al made amt op rlo rhi x.2.2.2.2.2.2.2.1 x.2.2.2.2.2.2.2.2.1 x.2.1 x.2.2.1 x.2.2.2.2.2.2.2.2.2.2.1 ∧ (rf = mRf → x.2.2.2.2.2.2.2.2.2.2.2.2.2.2.2.2.2.2.2.2.2.2.2.2.2.2.2.2.2.2.2.2.2.2.2.2.2.2.2 = y.2.2.2.2.2.2.2.2.2.2.2.2.2.2.2.2.2.2.2.2.2.2) := by
      intro s hj s0 b0 C hx k
      have hj := zj_s ej hj
      rw [if_neg s0] at hj
      obtain ⟨w, hw, hj⟩ := zb_s hj
      rcases hy with ⟨y0, _⟩ | ⟨_, y1, y2, y3⟩
      · exact absurd y0 b0
      · rw [← Option.some.inj hj]
        exact ⟨zPriceEq T C hw y2, zHN_up H C y1 hx, F, k, fun q => by rw [y3, ← q]⟩
    clear ej
    obtain ⟨i, ei, h1⟩ := zj_g h1
    by_cases c1 : p1 = 1
    · rw [if_pos c1] at h1
      obtain ⟨a, ha, h1⟩ := zb_s h1
      rw [c1] at hb
      obtain ⟨k, -⟩ := zGo hN.2.1 K ha
      rcases zTake1 T G R H K ha hb with ⟨a0, b0⟩ | ⟨⟨a0, b0⟩, C, hx⟩
      · rw [if_pos a0] at h1
        have h1 := zj_s ei h1
        rw [if_neg (show ¬ p1 = 2 by rw [c1]; decide)] at h1
        exact no _ h1 rfl b0 rfl k
      · rw [if_neg a0] at h1
        obtain ⟨h, hh, h1⟩ := zb_s h1
        have cp := zCopyC hh
        have C2 : zCh cN cF gof h b.2.2.2.2.2.2.2.2.2.2.2.2.1 := by
          intro i i0 i1
          obtain ⟨⟨d1, d2⟩, d3⟩ := C i i0 i1
          rw [cp _ d1 d2]
          exact ⟨⟨d1, d2⟩, d3⟩
        refine yes _ h1 (by show ¬ (1 : Int32) = 0; decide) b0 C2 (fun i i0 i1 i2 => ?_) k
        show h (gof i.toNatClampNeg).toNatClampNeg = gfx (gof i.toNatClampNeg).toNatClampNeg
        obtain ⟨⟨d1, d2⟩, -⟩ := C i i0 i1
        rw [cp _ d1 d2]
        exact hx _ (gr i i0 i1).1 (gr i i0 i1).2 i2
    · rw [if_neg c1] at h1
      have h1 := zj_s ei h1
      by_cases c2 : p1 = 2
      · rw [if_pos c2] at h1
        obtain ⟨a, ha, h1⟩ := zb_s h1
        rw [c2] at hb
        rcases zTake2 T G R H ha hb with ⟨a0, b0, e⟩ | ⟨⟨a0, b0⟩, C, hx⟩
        · exact no _ h1 a0 b0 e K
        · exact yes _ h1 a0 b0 C hx K
      · rw [if_neg c2] at h1
        unfold fn_X12_canTake at hb
        rw [if_neg c0, if_neg c1, if_neg c2] at hb
        exact no _ h1 rfl (by rw [← Option.some.inj hb]) rfl K
/-! TRIALS -/
noncomputable def zLcg (x : Int64) : Int64 := ((1103515245 : Int64) * x + 12345) - ((1103515245 : Int64) * x + 12345) / 2147483648 * 2147483648
theorem zLcg_b {s : Int32} (h : 0 ≤ s) : 0 ≤ (zLcg s.toInt64).toInt32 ∧ (zLcg s.toInt64).toInt32.toInt64 = zLcg s.toInt64 := by
  have h0 := Int32.le_iff_toInt_le.mp h
  rw [zi_0] at h0
  have h1 := Int32.toInt_lt s
  have e0 : s.toInt64.toInt = s.toInt := Int32.toInt_toInt64 s
  have e1 := zoL_mul (x := 1103515245) (y := s.toInt64) (z := 1103515245 * s.toInt64) rfl (show (1103515245 : Int64).toInt = 1103515245 by decide +kernel) e0 (by omega)
  have e2 := zoL_add (x := 1103515245 * s.toInt64) (y := 12345) (z := 1103515245 * s.toInt64 + 12345) rfl e1 (show (12345 : Int64).toInt = 12345 by decide +kernel) (by omega)
  have k31 : (2147483648 : Int64).toInt = 2147483648 := by decide +kernel
  have e3 : ((1103515245 * s.toInt64 + 12345) / 2147483648).toInt = (1103515245 * s.toInt + 12345) / 2147483648 := by
    rw [Int64.toInt_div_of_ne_right _ _ (by decide), e2, k31, Int.tdiv_eq_ediv_of_nonneg (by omega)]
  have e4 := zoL_mul (x := (1103515245 * s.toInt64 + 12345) / 2147483648) (y := 2147483648) (z := (1103515245 * s.toInt64 + 12345) / 2147483648 * 2147483648) rfl e3 k31 (by omega)
  have e5 := zoL_sub (x := 1103515245 * s.toInt64 + 12345) (y := (1103515245 * s.toInt64 + 12345) / 2147483648 * 2147483648) (z := zLcg s.toInt64) rfl e2 e4 (by omega)
  have b : 0 ≤ (zLcg s.toInt64).toInt ∧ (zLcg s.toInt64).toInt < 2147483648 := by omega
  have e6 : (zLcg s.toInt64).toInt32.toInt = (zLcg s.toInt64).toInt := by
    rw [Int64.toInt_toInt32, Int.bmod_def]
    split <;> omega
  refine ⟨Int32.le_iff_toInt_le.mpr (by rw [zi_0, e6]; exact b.1), Int64.toInt_inj.mp ?_⟩
  rw [Int32.toInt_toInt64, e6]
theorem zS64 {s : Int32} (h : 1 ≤ s ∧ s ≤ 1000000) : 1 ≤ s.toInt64 ∧ s.toInt64 ≤ 1000000 := by
  have k1 := Int32.le_iff_toInt_le.mp h.1
  have k2 := Int32.le_iff_toInt_le.mp h.2
  rw [zi_1'] at k1
  rw [show (1000000 : Int32).toInt = 1000000 by decide +kernel] at k2
  refine ⟨Int64.le_iff_toInt_le.mpr ?_, Int64.le_iff_toInt_le.mpr ?_⟩
  · rw [Int32.toInt_toInt64, show (1 : Int64).toInt = 1 by decide +kernel]; exact k1
  · rw [Int32.toInt_toInt64, show (1000000 : Int64).toInt = 1000000 by decide +kernel]; exact k2
theorem zNear1 {a s : Int64} (h : 1 ≤ s ∧ s ≤ 1000000) : fn_X11_nearest a 1 s = some (zRd' a s) := by
  have z := zst h
  rw [zNeJ (by rw [Int64.one_mul]; exact h.1) (by rw [Int64.one_mul]; exact z.2.2), Int64.one_mul]
  rfl
theorem zRound {a s : Int64} (h : 1 ≤ s ∧ s ≤ 1000000) : fn_X12_rounded a s = some (zRd' a s) := by
  have z := zst h
  unfold fn_X12_rounded
  rw [zFdM (fun q => by have := z.2.2; rw [q] at this; exact absurd this (by decide)), zb_some]
  rfl
theorem zWhatJ {i cN p4 : Int32} {made amt : Nat → Int32} {v : Nat → Int64} (hN : cN ≤ 14) (hi' : 0 ≤ i ∧ i < cN) (hp : p4 = 0 ∨ p4 = 1) (hm : (-1) ≤ made (2 * i + p4).toNatClampNeg ∧ made (2 * i + p4).toNatClampNeg < i) : fn_X8_whatOf i p4 cN made amt v = some (zVal (made (2 * i + p4).toNatClampNeg) (amt (2 * i + p4).toNatClampNeg) v) := by
  have em : fn_X4_madeOf i p4 cN made = some (made (2 * i + p4).toNatClampNeg) := by
    rcases hp with rfl | rfl
    · exact zMade0 hN hi'
    · exact zMade1 hN hi'
  have ea : fn_X4_amountOf i p4 cN amt = some (amt (2 * i + p4).toNatClampNeg).toInt64 := by
    rcases hp with rfl | rfl
    · exact zAmt0 hN hi'
    · exact zAmt1 hN hi'
  unfold fn_X8_whatOf zVal
  rw [em, zb_some, ea, zb_some]
  by_cases c : made (2 * i + p4).toNatClampNeg = (-1)
  · rw [if_pos (show made (2 * i + p4).toNatClampNeg < 0 by rw [c]; decide), if_pos c]
  · rw [if_neg (zW1 hm.1 c).2, if_neg (show ¬ i ≤ made (2 * i + p4).toNatClampNeg from Int32.not_le.mpr hm.2), if_neg c, zg_in 14 (by decide +kernel) ⟨(zW1 hm.1 c).1, zW2 (Int32.lt_trans hm.2 hi'.2) hN⟩]
theorem zExM {k s : Int32} {m1 m2 : Nat → Int32} {ex mA mB : Nat → Int64} {x : Int64} (h : fn_X12_exactOf k s m1 m2 ex mA mB = some x) : x = if s = 0 then (if m1 k.toNatClampNeg = (-1) then mA k.toNatClampNeg else ex (m1 k.toNatClampNeg).toNatClampNeg) else (if m2 k.toNatClampNeg = (-1) then mB k.toNatClampNeg else ex (m2 k.toNatClampNeg).toNatClampNeg) := by
  have h : fn_X12_lowOf k s m1 m2 ex mA mB = some x := h
  exact zLowM h
theorem zCaM {k s : Int32} {m1 m2 mH mS : Nat → Int32} {ka mA mB : Nat → Int64} {x : Int64} (hs : 1 ≤ (mS (mH k.toNatClampNeg).toNatClampNeg).toInt64 ∧ (mS (mH k.toNatClampNeg).toNatClampNeg).toInt64 ≤ 1000000) (h : fn_X12_castOf k s m1 m2 ka mA mB mH mS = some x) : x = zRd' (if s = 0 then (if m1 k.toNatClampNeg = (-1) then mA k.toNatClampNeg else ka (m1 k.toNatClampNeg).toNatClampNeg) else (if m2 k.toNatClampNeg = (-1) then mB k.toNatClampNeg else ka (m2 k.toNatClampNeg).toNatClampNeg)) (mS (mH k.toNatClampNeg).toNatClampNeg).toInt64 := by
  unfold fn_X12_castOf at h
  obtain ⟨j, ej, h⟩ := zj_g h
  have fin : ∀ (j2 : Int64 → Option Int64) (v : Int64), j2 = (fun (s_2 : Int64) => (zg k 14 (zg (mH k.toNatClampNeg) 8 (zb (fn_X12_rounded s_2 ((mS (mH k.toNatClampNeg).toNatClampNeg).toInt64)) (fun o_5 => (some o_5)))))) → j2 v = some x → x = zRd' v (mS (mH k.toNatClampNeg).toNatClampNeg).toInt64 := by
    intro j2 v e hj
    have hj := zj_s e hj
    obtain ⟨-, hj⟩ := zg_s hj
    obtain ⟨-, hj⟩ := zg_s hj
    rw [zRound hs, zb_some] at hj
    exact (Option.some.inj hj).symm
  by_cases c : s = 0
  · rw [if_pos c] at h ⊢
    obtain ⟨-, h⟩ := zg_s h
    have h := zj_s ej h
    obtain ⟨j2, e2, h⟩ := zj_g h
    by_cases d : m1 k.toNatClampNeg = (-1)
    · rw [if_pos d] at h ⊢
      rw [if_pos c] at h
      obtain ⟨-, h⟩ := zg_s h
      exact fin j2 _ e2 h
    · rw [if_neg d] at h ⊢
      obtain ⟨-, h⟩ := zg_s h
      exact fin j2 _ e2 h
  · rw [if_neg c] at h ⊢
    obtain ⟨-, h⟩ := zg_s h
    have h := zj_s ej h
    obtain ⟨j2, e2, h⟩ := zj_g h
    by_cases d : m2 k.toNatClampNeg = (-1)
    · rw [if_pos d] at h ⊢
      rw [if_neg c] at h
      obtain ⟨-, h⟩ := zg_s h
      exact fin j2 _ e2 h
    · rw [if_neg d] at h ⊢
      obtain ⟨-, h⟩ := zg_s h
      exact fin j2 _ e2 h
noncomputable def zSm (cN : Int32) (x : Int32 × (Nat → Int64) × (Nat → Int64)) (y : Int32 × (Nat → Int64) × (Nat → Int64)) : Prop := x.1 = y.1 ∧ 0 ≤ y.1 ∧ ∀ j : Int32, 0 ≤ j → j < cN → x.2.1 j.toNatClampNeg = y.2.1 j.toNatClampNeg ∧ x.2.2 j.toNatClampNeg = y.2.2 j.toNatClampNeg
set_option maxHeartbeats 8000000 in
theorem zSamp {cF cc cN inp sd : Int32} {nF nN stp mst prc al made amt op fx jn lets gof hand mF mN mCst mNF mNN mS mM mC mW mO m1 m2 mX mG mH : Nat → Int32} {mA mB mEx mKa sEx sKp : Nat → Int64} {x : Int32 × (Nat → Int64) × (Nat → Int64)} {y : Int32 × (Nat → Int64) × (Nat → Int64)} (T : zTN cF cc cN inp nF nN stp mst prc al made amt op fx jn lets mF mN mNF mNN mS mM mC mW mCst mO m1 m2 mX mG mA mB) (C : zCh cN cF gof hand mH) (hs : 0 ≤ sd) (h1 : fn_X8_sample sd cF cN gof hand stp op made amt sEx sKp = some x) (h2 : fn_X12_triesOnce sd mN mH mS mO m1 m2 mEx mA mB mKa = some y) : zSm cN x y := by
  obtain ⟨⟨f1, f2, f3⟩, ⟨n1, n2, n3⟩, hC, hz, hp, hI, hf, hn, hg⟩ := T
  unfold fn_X8_sample at h1
  unfold fn_X12_triesOnce at h2
  rw [zn01.1, n1] at h2
  refine zl_ip2 (P := fun (x : Int32 × (Nat → Int64) × (Nat → Int64)) (y : Int32 × (Nat → Int64) × (Nat → Int64)) => zSm cN x y) (fun s t => s.2.1 = t.1 ∧ (0 ≤ t.1 ∧ t.1 ≤ cN) ∧ s.1 = t.2.1.toInt64 ∧ 0 ≤ t.2.1 ∧ ∀ j : Int32, 0 ≤ j → j < t.1 → s.2.2.1 j.toNatClampNeg = t.2.2.1 j.toNatClampNeg ∧ s.2.2.2 j.toNatClampNeg = t.2.2.2 j.toNatClampNeg) ?_ _ _ _ _ _ _ ?_ h1 h2
  rotate_left
  · exact ⟨rfl, ⟨Int32.le_refl 0, n2⟩, rfl, hs, fun j j0 j1 => absurd j1 (Int32.not_lt.mpr j0)⟩
  intro s t k1 k2 o1 o2 ⟨R1, R2, R3, R4, R5⟩ hb ho1 ho2
  obtain ⟨x0, i, ex, kp⟩ := s
  obtain ⟨k, sw, ex', kp'⟩ := t
  dsimp only at R1 R2 R3 R4 R5 ho1 ho2
  subst R1
  rw [R3] at ho1
  by_cases d : cN ≤ i
  · rw [if_pos d] at ho1 ho2
    rw [Int32.le_antisymm R2.2 d] at R5
    rw [← Option.some.inj ho1, ← Option.some.inj ho2]
    exact ⟨Int32.toInt32_toInt64 sw, R4, R5⟩
  · rw [if_neg d] at ho1 ho2
    have hi : 0 ≤ i ∧ i < cN := ⟨R2.1, Int32.not_le.mp d⟩
    have ib : (0 ≤ i ∧ i < 100000) ∧ 0 ≤ i + 1 ∧ i + 1 ≤ cN := ⟨(zN14 hi.1 hi.2 n3).1, (zN14 hi.1 hi.2 n3).2.2.2.2⟩
    obtain ⟨-, -, t1, t2⟩ := C i hi.1 hi.2
    obtain ⟨-, g2, -, -, g5, -⟩ := hf _ t1 t2
    obtain ⟨q1, q2, q3, q4, q5, q6, q7, q8, q9, q10, q11, q12, q13, q14, q15, q16, q17⟩ := hn i hi.1 hi.2
    have s6 := zS64 g5
    rw [zFmtOf n3 C hi, zb_some, zStpOf f3 ⟨t1, t2⟩, zb_some] at ho1
    obtain ⟨-, ho1⟩ := zg_s ho1
    obtain ⟨-, ho2⟩ := zg_s ho2
    obtain ⟨-, ho2⟩ := zg_s ho2
    obtain ⟨-, ho2⟩ := zg_s ho2
    rw [← q2, ← g2] at ho2
    -- one NUMBER more, alike in both
    have nxt : ∀ (X : Int64) (w : Int32) (a b : Int64), X = w.toInt64 → 0 ≤ w → k1 (X, i + 1, vp_updL ex i.toNatClampNeg a, vp_updL kp i.toNatClampNeg b) = some o1 → k2 (i + 1, w, vp_updL ex' i.toNatClampNeg a, vp_updL kp' i.toNatClampNeg b) = some o2 → zSm cN o1 o2 := by
      intro X w a b e0 w0 e1 e2
      refine hb _ _ _ _ ?_ e1 e2
      refine ⟨rfl, ib.2, e0, w0, fun j j0 j1 => ?_⟩
      show vp_updL ex i.toNatClampNeg a j.toNatClampNeg = vp_updL ex' i.toNatClampNeg a j.toNatClampNeg ∧ vp_updL kp i.toNatClampNeg b j.toNatClampNeg = vp_updL kp' i.toNatClampNeg b j.toNatClampNeg
      rw [zupL hi.1 j0, zupL hi.1 j0, zupL hi.1 j0, zupL hi.1 j0]
      rcases zlt1 ib.1 j1 with q | q
      · rw [if_pos q, if_pos q, if_pos q, if_pos q]; exact ⟨rfl, rfl⟩
      · have ne : ¬ j = i := fun z => by rw [z] at q; exact absurd q Int32.lt_irrefl
        rw [if_neg ne, if_neg ne, if_neg ne, if_neg ne]
        exact R5 j j0 q
    by_cases c : op i.toNatClampNeg = 0
    · rw [if_pos c] at ho1 ho2
      have ho1 := zn_s ho1 rfl
      rw [zAmt0 n3 hi, zb_some, zAmt1 n3 hi, zb_some] at ho1
      have ho1 := zn_s ho1 rfl
      rw [zupL hi.1 hi.1, if_pos rfl, zNear1 s6, zb_some] at ho1
      obtain ⟨dr, hd, ho2⟩ := zb_s ho2
      unfold fn_X12_draw at hd
      have hd := zn_s hd rfl
      have ed := (Option.some.inj hd).symm
      rw [ed] at ho2
      have ho2 := zn_s ho2 rfl
      dsimp only at ho2
      rw [zupL hi.1 hi.1, if_pos rfl, zRound s6, zb_some, q7, q8] at ho2
      obtain ⟨b1, b2⟩ := zLcg_b R4
      exact nxt (zLcg sw.toInt64) (zLcg sw.toInt64).toInt32 _ _ b2.symm b1 ho1 ho2
    · rw [if_neg c] at ho1 ho2
      have p15 : 1 ≤ op i.toNatClampNeg ∧ op i.toNatClampNeg ≤ 5 := zOp15 q9 c
      rw [zWhatJ n3 hi (Or.inl rfl) q12, zb_some, zWhatJ n3 hi (Or.inr rfl) q13, zb_some, zApJ p15 zone64, zb_some, zWhatJ n3 hi (Or.inl rfl) q12, zb_some, zNear1 s6, zb_some, zWhatJ n3 hi (Or.inr rfl) q13, zb_some, zNear1 s6, zb_some, zApJ p15 s6, zb_some] at ho1
      obtain ⟨e1, he1, ho2⟩ := zb_s ho2
      obtain ⟨e2, he2, ho2⟩ := zb_s ho2
      rw [zApM zone64, zb_some] at ho2
      obtain ⟨e3, he3, ho2⟩ := zb_s ho2
      obtain ⟨e4, he4, ho2⟩ := zb_s ho2
      rw [zApM s6, zb_some] at ho2
      have s7 : 1 ≤ (mS (mH i.toNatClampNeg).toNatClampNeg).toInt64 ∧ (mS (mH i.toNatClampNeg).toNatClampNeg).toInt64 ≤ 1000000 := by rw [← g2]; exact s6
      have val : ∀ (m : Int32) (a : Int32) (v v' : Nat → Int64), (-1) ≤ m → m < i → (∀ j : Int32, 0 ≤ j → j < i → v j.toNatClampNeg = v' j.toNatClampNeg) → zVal m a v = if m = (-1) then a.toInt64 else v' m.toNatClampNeg := by
        intro m a v v' m0 m1 hv
        unfold zVal
        by_cases z : m = (-1)
        · rw [if_pos z, if_pos z]
        · rw [if_neg z, if_neg z]; exact hv m (zW1 m0 z).1 m1
      have r1 := zExM he1
      have r2 := zExM he2
      have r3 := zCaM s7 he3
      have r4 := zCaM s7 he4
      rw [if_pos rfl, ← q5, q7, ← val _ _ ex ex' q12.1 q12.2 (fun j j0 j1 => (R5 j j0 j1).1)] at r1
      rw [if_neg (show ¬ (1 : Int32) = 0 by decide), ← q6, q8, ← val _ _ ex ex' q13.1 q13.2 (fun j j0 j1 => (R5 j j0 j1).1)] at r2
      rw [if_pos rfl, ← q5, q7, ← val _ _ kp kp' q12.1 q12.2 (fun j j0 j1 => (R5 j j0 j1).2), ← g2] at r3
      rw [if_neg (show ¬ (1 : Int32) = 0 by decide), ← q6, q8, ← val _ _ kp kp' q13.1 q13.2 (fun j j0 j1 => (R5 j j0 j1).2), ← g2] at r4
      rw [r1, r2, r3, r4] at ho2
      exact nxt sw.toInt64 sw _ _ rfl R4 ho1 ho2
theorem zPasC {cF cc cN inp gcl mHh mFa mFw rcA rcW : Int32} {nF nN stp mst prc al made amt op fx jn lets gof gfx rwd hand mF mN mCst mNF mNN mS mM mC mW mO m1 m2 mX mG mH mTr : Nat → Int32} {rlo rhi mA mB mLe mGe mEr rcE : Nat → Int64} {mWb : Int64} {x : Int32 × Int32 × Int32 × (Nat → Int64)} {y : Int32 × Int32 × Int32 × Int32 × (Nat → Int32) × (Nat → Int64) × (Nat → Int64) × (Nat → Int64)} (T : zTN cF cc cN inp nF nN stp mst prc al made amt op fx jn lets mF mN mNF mNN mS mM mC mW mCst mO m1 m2 mX mG mA mB) (R : zRN cN (-1) 0 op made amt rwd rlo rhi) (H : zHN cN cF gcl mHh gof gfx hand mH) (h1 : fn_X11_handPasses cF cN gcl rcA rcW gof hand stp op made rcE amt rlo rhi mst al = some x) (h2 : fn_X12_handPasses mWb mHh mFa mFw mN mH mTr mO m1 m2 mLe mA mB mGe mS mEr mM mW = some y) : x.1 = y.1 ∧ (¬ x.1 = 0 → 0 < cN ∧ gcl = 0) := by
  rcases zHandP T R H h1 h2 with ⟨_, a2, a3⟩ | ⟨c, pe, _⟩
  · exact ⟨a2.trans a3.symm, fun q => absurd a2 q⟩
  · exact ⟨pe.1, fun _ => c⟩
set_option maxHeartbeats 4000000 in
theorem zeq_trial {cF cc cN inp gcl mHh mWn mFa mFw mSd sd rcA rcW : Int32} {nF nN stp mst prc al made amt op fx jn lets gof gfx rwd hand mF mN mCst mNF mNN mS mM mC mW mO m1 m2 mX mG mH mTr : Nat → Int32} {rlo rhi mA mB mLe mGe mEr mEx mKa rcE sEx sKp : Nat → Int64} {mWb : Int64} {p1 p2 : Int32} {x : Int64 × Int32 × Int32 × (Nat → Int64) × (Nat → Int64) × (Nat → Int64)} {y : Int64 × Int32 × Int32 × Int32 × Int32 × (Nat → Int32) × (Nat → Int64) × (Nat → Int64) × (Nat → Int64) × (Nat → Int64) × (Nat → Int64)} (T : zTN cF cc cN inp nF nN stp mst prc al made amt op fx jn lets mF mN mNF mNN mS mM mC mW mCst mO m1 m2 mX mG mA mB) (R : zRN cN (-1) 0 op made amt rwd rlo rhi) (H : zHN cN cF gcl mHh gof gfx hand mH) (es : sd = mSd) (hs : 0 ≤ sd) (h1 : fn_X11_trial p1 p2 sd cF cN gcl rcA rcW gof hand stp op made rcE amt rlo rhi mst al sEx sKp = some x) (h2 : fn_X12_trial p1 p2 mWn mWb mHh mFa mFw mSd mN mH mTr mO m1 m2 mLe mA mB mGe mS mEr mM mW mEx mKa = some y) : x.1 = y.1 ∧ y.2.2.2.2.1 = mSd := by
  have hN := T.2.1
  subst es
  unfold fn_X11_trial at h1
  unfold fn_X12_trial at h2
  rw [zHasN, zb_some] at h1
  rw [zIsNum (by rw [hN.1]; exact hN.2.1), zb_some, hN.1] at h2
  by_cases hi : 0 ≤ p1 ∧ p1 < cN
  · rw [if_neg (by rw [zif1]; exact fun q => q hi)] at h1 h2
    obtain ⟨a, ha, h1⟩ := zb_s h1
    obtain ⟨b, hb, h2⟩ := zb_s h2
    obtain ⟨e, ec⟩ := zPasC T R H ha hb
    by_cases z : a.1 = 0
    · rw [if_pos z] at h1
      rw [if_pos (show b.1 = 0 from e.symm.trans z)] at h2
      rw [← Option.some.inj h1, ← Option.some.inj h2]
      exact ⟨rfl, rfl⟩
    · rw [if_neg z] at h1
      rw [if_neg (show ¬ b.1 = 0 from fun q => z (e.trans q))] at h2
      obtain ⟨C, -⟩ := H.2.2 (ec z).1 (ec z).2
      obtain ⟨u, hu, h1⟩ := zb_s h1
      obtain ⟨v, hv, h2⟩ := zb_s h2
      obtain ⟨-, -, sm⟩ := zSamp T C hs hu hv
      obtain ⟨s1, s2⟩ := sm p1 hi.1 hi.2
      by_cases w : p2 = 0
      · rw [if_pos w] at h1 h2
        obtain ⟨-, h1⟩ := zg_s h1
        obtain ⟨-, h2⟩ := zg_s h2
        rw [← Option.some.inj h1, ← Option.some.inj h2]
        exact ⟨s1, rfl⟩
      · rw [if_neg w] at h1 h2
        obtain ⟨-, h1⟩ := zg_s h1
        obtain ⟨-, h2⟩ := zg_s h2
        rw [← Option.some.inj h1, ← Option.some.inj h2]
        exact ⟨s2, rfl⟩
  · rw [if_pos (by rw [zif1]; exact hi)] at h1 h2
    rw [← Option.some.inj h1, ← Option.some.inj h2]
    exact ⟨rfl, rfl⟩
set_option maxHeartbeats 4000000 in
theorem zeq_trials {cF cc cN inp gcl mHh mWn mFa mFw mSd sd rcA rcW : Int32} {nF nN stp mst prc al made amt op fx jn lets gof gfx rwd hand mF mN mCst mNF mNN mS mM mC mW mO m1 m2 mX mG mH mTr mRf rf : Nat → Int32} {rlo rhi mA mB mLe mGe mEr mEx mKa rcE sEx sKp : Nat → Int64} {mWb : Int64} {p1 p2 : Int32} {x : Int64 × Int32 × (Nat → Int32) × Int32 × Int32 × (Nat → Int64) × (Nat → Int64) × (Nat → Int64)} {y : Int64 × Int32 × Int32 × Int32 × Int32 × (Nat → Int32) × (Nat → Int32) × (Nat → Int64) × (Nat → Int64) × (Nat → Int64) × (Nat → Int64) × (Nat → Int64)} (T : zTN cF cc cN inp nF nN stp mst prc al made amt op fx jn lets mF mN mNF mNN mS mM mC mW mCst mO m1 m2 mX mG mA mB) (R : zRN cN (-1) 0 op made amt rwd rlo rhi) (H : zHN cN cF gcl mHh gof gfx hand mH) (es : sd = mSd) (hs : 0 ≤ sd) (h1 : fn_X11_trials p1 p2 sd rf cF cN gcl rcA rcW gof hand stp op made rcE amt rlo rhi mst al sEx sKp = some x) (h2 : fn_X12_trials p1 p2 mWn mWb mHh mFa mFw mSd mRf mN mH mTr mO m1 m2 mLe mA mB mGe mS mEr mM mW mEx mKa = some y) : x.1 = y.1 ∧ (x.2.1 = y.2.2.2.2.1 ∧ 0 ≤ x.2.1) ∧ (rf = mRf → x.2.2.1 = y.2.2.2.2.2.1) := by
  have hN := T.2.1
  subst es
  unfold fn_X11_trials at h1
  unfold fn_X12_trials at h2
  obtain ⟨i, hi, h2⟩ := zb_s h2
  rw [zIsIn] at hi
  have ei := Option.some.inj hi
  have in1 : (1 : Int64) ≤ p1.toInt64 ↔ 1 ≤ p1 := by rw [show (1 : Int64) = (1 : Int32).toInt64 by decide +kernel, z64_le]
  have in2 : p1.toInt64 ≤ (40 : Int64) ↔ p1 ≤ 40 := by rw [show (40 : Int64) = (40 : Int32).toInt64 by decide +kernel, z64_le]
  -- both refuse
  have ref : ∀ (r r' : Int32 × (Nat → Int32)), fn_X11_refuse 4 rf = some r → fn_X12_refuses 4 mRf = some r' → r.1.toInt64 = r'.1.toInt64 ∧ (rf = mRf → r.2 = r'.2) := by
    intro r r' e1 e2
    rw [zref (by decide) e1, zrefM e2]
    exact ⟨rfl, fun q => by rw [q]⟩
  by_cases c : 1 ≤ p1 ∧ p1 ≤ 40
  · rw [if_pos ⟨in1.mpr c.1, in2.mpr c.2⟩] at ei
    rw [if_neg (show ¬ i = 0 by rw [← ei]; decide)] at h2
    rw [if_neg (show ¬ p1 < 1 from Int32.not_lt.mpr c.1), if_neg (show ¬ 40 < p1 from Int32.not_lt.mpr c.2), zHasN, zb_some] at h1
    rw [zIsNum (by rw [hN.1]; exact hN.2.1), zb_some, hN.1] at h2
    by_cases d : 0 ≤ p2 ∧ p2 < cN
    · rw [if_neg (by rw [zif1]; exact fun q => q d)] at h1 h2
      obtain ⟨a, ha, h1⟩ := zb_s h1
      obtain ⟨b, hb, h2⟩ := zb_s h2
      obtain ⟨e, ec⟩ := zPasC T R H ha hb
      by_cases z : a.1 = 0
      · rw [if_pos z] at h1
        rw [if_pos (show b.1 = 0 from e.symm.trans z)] at h2
        obtain ⟨r, hr, h1⟩ := zb_s h1
        obtain ⟨r', hr', h2⟩ := zb_s h2
        obtain ⟨w1, w2⟩ := ref r r' hr hr'
        rw [← Option.some.inj h1, ← Option.some.inj h2]
        exact ⟨w1, ⟨rfl, hs⟩, w2⟩
      · rw [if_neg z] at h1
        rw [if_neg (show ¬ b.1 = 0 from fun q => z (e.trans q))] at h2
        obtain ⟨C, -⟩ := H.2.2 (ec z).1 (ec z).2
        refine zl_ip2 (P := fun (x : Int64 × Int32 × (Nat → Int32) × Int32 × Int32 × (Nat → Int64) × (Nat → Int64) × (Nat → Int64)) (y : Int64 × Int32 × Int32 × Int32 × Int32 × (Nat → Int32) × (Nat → Int32) × (Nat → Int64) × (Nat → Int64) × (Nat → Int64) × (Nat → Int64) × (Nat → Int64)) => x.1 = y.1 ∧ (x.2.1 = y.2.2.2.2.1 ∧ 0 ≤ x.2.1) ∧ (rf = mRf → x.2.2.1 = y.2.2.2.2.2.1)) (fun s t => s.1 = t.1 ∧ s.2.1 = t.2.1 ∧ s.2.2.1 = t.2.2.1 ∧ 0 ≤ s.2.2.1) ?_ _ _ _ _ _ _ ?_ h1 h2
        rotate_left
        · exact ⟨rfl, rfl, rfl, hs⟩
        intro s t k1 k2 o1 o2 ⟨R1, R2, R3, R4⟩ hb2 ho1 ho2
        obtain ⟨ap, tr, sw, ex, kp⟩ := s
        obtain ⟨ap', tr', sw', ex', kp'⟩ := t
        dsimp only at R1 R2 R3 R4 ho1 ho2
        subst R1 R2 R3
        by_cases g : p1 ≤ tr
        · rw [if_pos g] at ho1 ho2
          rw [← Option.some.inj ho1, ← Option.some.inj ho2]
          exact ⟨rfl, ⟨rfl, R4⟩, fun q => q⟩
        · rw [if_neg g] at ho1 ho2
          obtain ⟨u, hu, ho1⟩ := zb_s ho1
          obtain ⟨v, hv, ho2⟩ := zb_s ho2
          obtain ⟨m1, m2, m3⟩ := zSamp T C R4 hu hv
          obtain ⟨s1, s2⟩ := m3 p2 d.1 d.2
          obtain ⟨-, ho1⟩ := zg_s ho1
          obtain ⟨-, ho2⟩ := zg_s ho2
          have ho1 := zn_s ho1 rfl
          rw [zAmo, zb_some, zGre, zb_some, ← s1, ← s2] at ho2
          refine hb2 _ _ _ _ ?_ ho1 ho2
          exact ⟨rfl, rfl, m1, by rw [← m1] at m2; exact m2⟩
    · rw [if_pos (by rw [zif1]; exact d)] at h1 h2
      obtain ⟨r, hr, h1⟩ := zb_s h1
      obtain ⟨r', hr', h2⟩ := zb_s h2
      obtain ⟨w1, w2⟩ := ref r r' hr hr'
      rw [← Option.some.inj h1, ← Option.some.inj h2]
      exact ⟨w1, ⟨rfl, hs⟩, w2⟩
  · rw [if_neg (fun q => c ⟨in1.mp q.1, in2.mp q.2⟩)] at ei
    rw [if_pos ei.symm] at h2
    obtain ⟨r', hr', h2⟩ := zb_s h2
    by_cases d : p1 < 1
    · rw [if_pos d] at h1
      obtain ⟨r, hr, h1⟩ := zb_s h1
      obtain ⟨w1, w2⟩ := ref r r' hr hr'
      rw [← Option.some.inj h1, ← Option.some.inj h2]
      exact ⟨w1, ⟨rfl, hs⟩, w2⟩
    · rw [if_neg d, if_pos (show 40 < p1 from Int32.not_le.mp (fun q => c ⟨Int32.not_lt.mp d, q⟩))] at h1
      obtain ⟨r, hr, h1⟩ := zb_s h1
      obtain ⟨w1, w2⟩ := ref r r' hr hr'
      rw [← Option.some.inj h1, ← Option.some.inj h2]
      exact ⟨w1, ⟨rfl, hs⟩, w2⟩
/-! how far a box may grow: where a longer box PASSES, a shorter one does -/
theorem zFd_i {x : Int64} {X : Int} (hX : x.toInt = X) (h : -9000000000000000000 ≤ X ∧ X ≤ 9000000000000000000) : (zFd x 2000).toInt = X / 2000 := by
  have e2 : (2000 : Int64).toInt = 2000 := by decide +kernel
  have k : X.tdiv 2000 = X / 2000 ∧ 0 ≤ X ∨ X.tdiv 2000 = -((-X) / 2000) ∧ X < 0 := by
    by_cases c : 0 ≤ X
    · exact Or.inl ⟨Int.tdiv_eq_ediv_of_nonneg c, c⟩
    · refine Or.inr ⟨?_, by omega⟩
      obtain ⟨Y, hY⟩ : ∃ Y : Int, X = -Y := ⟨-X, by omega⟩
      rw [hY, Int.neg_tdiv, Int.tdiv_eq_ediv_of_nonneg (by omega), Int.neg_neg]
  have e4 : (x / 2000).toInt = X.tdiv 2000 := by
    rw [Int64.toInt_div_of_ne_right _ _ (by decide), hX, e2]
  generalize X.tdiv 2000 = q at k e4
  have e5 := zoL_mul (x := x / 2000) (y := 2000) (z := x / 2000 * 2000) rfl e4 e2 (by omega)
  have e6 := zoL_sub (x := x) (y := x / 2000 * 2000) (z := x - x / 2000 * 2000) rfl hX e5 (by omega)
  unfold zFd
  by_cases c : x - x / 2000 * 2000 = 0
  · rw [if_pos c, e4]
    rw [c, zl0] at e6
    omega
  · rw [if_neg c]
    have c' : ¬ (x - x / 2000 * 2000).toInt = 0 := fun q => c (Int64.toInt_inj.mp (by rw [q, zl0]))
    rw [e6] at c'
    by_cases d : 0 ≤ x
    · have d' := Int64.le_iff_toInt_le.mp d
      rw [zl0, hX] at d'
      rw [if_pos d, e4]
      omega
    · have d' : ¬ (0 : Int64).toInt ≤ x.toInt := fun q => d (Int64.le_iff_toInt_le.mpr q)
      rw [zl0, hX] at d'
      have e7 := zoL_sub (x := x / 2000) (y := 1) (z := x / 2000 - 1) rfl e4 (show (1 : Int64).toInt = 1 by decide +kernel) (by omega)
      rw [if_neg d, e7]
      omega
theorem zmab {A B M : Int} (hA : -M ≤ A ∧ A ≤ M) (hB : -M ≤ B ∧ B ≤ M) : -(M * M) ≤ A * B ∧ A * B ≤ M * M := by
  have h1 := Int.mul_nonneg (show 0 ≤ M - A by omega) (show 0 ≤ M + B by omega)
  have h2 := Int.mul_nonneg (show 0 ≤ M + A by omega) (show 0 ≤ M - B by omega)
  have h3 := Int.mul_nonneg (show 0 ≤ M - A by omega) (show 0 ≤ M - B by omega)
  have h4 := Int.mul_nonneg (show 0 ≤ M + A by omega) (show 0 ≤ M + B by omega)
  simp only [Int.sub_mul, Int.add_mul, Int.mul_sub, Int.mul_add] at h1 h2 h3 h4
  omega
theorem zmab9 {A B : Int} (hA : -1000000000 ≤ A ∧ A ≤ 1000000000) (hB : -1000000000 ≤ B ∧ B ≤ 1000000000) : -1000000000000000000 ≤ A * B ∧ A * B ≤ 1000000000000000000 := by
  have := zmab (M := 1000000000) hA hB
  omega
theorem zPr_i {a b : Int64} (hA : -1000000000 ≤ a.toInt ∧ a.toInt ≤ 1000000000) (hB : -1000000000 ≤ b.toInt ∧ b.toInt ≤ 1000000000) : (zPr a b 1).toInt = (2 * (a.toInt * b.toInt) + 1000) / 2000 := by
  have m := zmab9 hA hB
  have e1 := zoL_mul (x := 2) (y := a) (z := 2 * a) rfl (show (2 : Int64).toInt = 2 by decide +kernel) rfl (by omega)
  have e2 := zoL_mul (x := 2 * a) (y := b) (z := 2 * a * b) rfl e1 rfl (by rw [Int.mul_assoc]; omega)
  rw [Int.mul_assoc] at e2
  have e3 := zoL_add (x := 2 * a * b) (y := 1000) (z := 2 * a * b + 1000) rfl e2 zl1000 (by omega)
  unfold zPr
  rw [show (1000 * 1 : Int64) = 1000 by decide, show (2000 * 1 : Int64) = 2000 by decide, Int64.mul_one]
  exact zFd_i e3 (by omega)
theorem zLs_i (a b : Int64) : (zLs a b).toInt = a.toInt ∧ a.toInt ≤ b.toInt ∨ (zLs a b).toInt = b.toInt ∧ b.toInt ≤ a.toInt := by
  unfold zLs
  by_cases c : b < a
  · rw [if_pos c]
    have := Int64.lt_iff_toInt_lt.mp c
    exact Or.inr ⟨rfl, by omega⟩
  · rw [if_neg c]
    have c' : ¬ b.toInt < a.toInt := fun q => c (Int64.lt_iff_toInt_lt.mpr q)
    exact Or.inl ⟨rfl, by omega⟩
theorem zLs4 (a b c d : Int64) : ((zLs (zLs a b) (zLs c d)).toInt ≤ a.toInt ∧ (zLs (zLs a b) (zLs c d)).toInt ≤ b.toInt ∧ (zLs (zLs a b) (zLs c d)).toInt ≤ c.toInt ∧ (zLs (zLs a b) (zLs c d)).toInt ≤ d.toInt) ∧ ((zLs (zLs a b) (zLs c d)).toInt = a.toInt ∨ (zLs (zLs a b) (zLs c d)).toInt = b.toInt ∨ (zLs (zLs a b) (zLs c d)).toInt = c.toInt ∨ (zLs (zLs a b) (zLs c d)).toInt = d.toInt) := by
  have h1 := zLs_i a b
  have h2 := zLs_i c d
  have h3 := zLs_i (zLs a b) (zLs c d)
  generalize (zLs (zLs a b) (zLs c d)).toInt = w at h3 ⊢
  generalize (zLs a b).toInt = u at h1 h3
  generalize (zLs c d).toInt = v at h2 h3
  refine ⟨⟨?_, ?_, ?_, ?_⟩, ?_⟩ <;> omega
theorem zMx4 (a b c d : Int64) : (a.toInt ≤ (zMx (zMx a b) (zMx c d)).toInt ∧ b.toInt ≤ (zMx (zMx a b) (zMx c d)).toInt ∧ c.toInt ≤ (zMx (zMx a b) (zMx c d)).toInt ∧ d.toInt ≤ (zMx (zMx a b) (zMx c d)).toInt) ∧ ((zMx (zMx a b) (zMx c d)).toInt = a.toInt ∨ (zMx (zMx a b) (zMx c d)).toInt = b.toInt ∨ (zMx (zMx a b) (zMx c d)).toInt = c.toInt ∨ (zMx (zMx a b) (zMx c d)).toInt = d.toInt) := by
  have h1 := zMx_i a b
  have h2 := zMx_i c d
  have h3 := zMx_i (zMx a b) (zMx c d)
  generalize (zMx (zMx a b) (zMx c d)).toInt = w at h3 ⊢
  generalize (zMx a b).toInt = u at h1 h3
  generalize (zMx c d).toInt = v at h2 h3
  refine ⟨⟨?_, ?_, ?_, ?_⟩, ?_⟩ <;> omega
theorem zcor {x y c d : Int} (h : c ≤ y ∧ y ≤ d) : x * c ≤ x * y ∧ x * y ≤ x * d ∨ x * d ≤ x * y ∧ x * y ≤ x * c := by
  rcases Int.le_total 0 x with q | q
  · exact Or.inl ⟨Int.mul_le_mul_of_nonneg_left h.1 q, Int.mul_le_mul_of_nonneg_left h.2 q⟩
  · have h1 := Int.mul_le_mul_of_nonneg_left h.1 (show 0 ≤ -x by omega)
    have h2 := Int.mul_le_mul_of_nonneg_left h.2 (show 0 ≤ -x by omega)
    simp only [Int.neg_mul] at h1 h2
    exact Or.inr ⟨by omega, by omega⟩
/-- a product lies between those of the ends, also rounded -/
theorem zbil {a b c d x y : Int} (hx : a ≤ x ∧ x ≤ b) (hy : c ≤ y ∧ y ≤ d) : (a * c ≤ x * y ∨ a * d ≤ x * y ∨ b * c ≤ x * y ∨ b * d ≤ x * y) ∧ (x * y ≤ a * c ∨ x * y ≤ a * d ∨ x * y ≤ b * c ∨ x * y ≤ b * d) := by
  have h1 := zcor (x := x) hy
  have h2 := zcor (x := c) hx
  have h3 := zcor (x := d) hx
  rw [Int.mul_comm c a, Int.mul_comm c x, Int.mul_comm c b] at h2
  rw [Int.mul_comm d a, Int.mul_comm d x, Int.mul_comm d b] at h3
  generalize x * y = u at h1 h2 h3 ⊢
  generalize x * c = v at h1 h2
  generalize x * d = w at h1 h3
  refine ⟨?_, ?_⟩ <;> omega
theorem zbr {a b c d x y : Int64} (hx : a.toInt ≤ x.toInt ∧ x.toInt ≤ b.toInt) (hy : c.toInt ≤ y.toInt ∧ y.toInt ≤ d.toInt) (ha : -1000000000 ≤ a.toInt ∧ b.toInt ≤ 1000000000) (hc : -1000000000 ≤ c.toInt ∧ d.toInt ≤ 1000000000) : (zLs (zLs (zPr a c 1) (zPr a d 1)) (zLs (zPr b c 1) (zPr b d 1))).toInt ≤ (zPr x y 1).toInt ∧ (zPr x y 1).toInt ≤ (zMx (zMx (zPr a c 1) (zPr a d 1)) (zMx (zPr b c 1) (zPr b d 1))).toInt := by
  have h := zbil hx hy
  have l := (zLs4 (zPr a c 1) (zPr a d 1) (zPr b c 1) (zPr b d 1)).1
  have m := (zMx4 (zPr a c 1) (zPr a d 1) (zPr b c 1) (zPr b d 1)).1
  rw [zPr_i (a := a) (b := c) (by omega) (by omega), zPr_i (a := a) (b := d) (by omega) (by omega), zPr_i (a := b) (b := c) (by omega) (by omega), zPr_i (a := b) (b := d) (by omega) (by omega)] at l m
  rw [zPr_i (a := x) (b := y) (by omega) (by omega)]
  generalize (zLs (zLs (zPr a c 1) (zPr a d 1)) (zLs (zPr b c 1) (zPr b d 1))).toInt = L at l ⊢
  generalize (zMx (zMx (zPr a c 1) (zPr a d 1)) (zMx (zPr b c 1) (zPr b d 1))).toInt = M at m ⊢
  generalize a.toInt * c.toInt = p1 at h l m
  generalize a.toInt * d.toInt = p2 at h l m
  generalize b.toInt * c.toInt = p3 at h l m
  generalize b.toInt * d.toInt = p4 at h l m
  generalize x.toInt * y.toInt = p at h ⊢
  obtain ⟨h1, h2⟩ := h
  refine ⟨?_, ?_⟩
  · rcases h1 with h1 | h1 | h1 | h1 <;> omega
  · rcases h2 with h2 | h2 | h2 | h2 <;> omega
set_option maxHeartbeats 2000000 in
theorem zLoV_m {p : Int32} {a b c d a' b' c' d' : Int64} (h1 : -1000000000 ≤ a'.toInt ∧ a'.toInt ≤ a.toInt ∧ a.toInt ≤ b.toInt ∧ b.toInt ≤ b'.toInt ∧ b'.toInt ≤ 1000000000) (h2 : -1000000000 ≤ c'.toInt ∧ c'.toInt ≤ c.toInt ∧ c.toInt ≤ d.toInt ∧ d.toInt ≤ d'.toInt ∧ d'.toInt ≤ 1000000000) : (zLoV p a' b' c' d').toInt ≤ (zLoV p a b c d).toInt ∧ (zLoV p a b c d).toInt ≤ (zHiV p a b c d).toInt ∧ (zHiV p a b c d).toInt ≤ (zHiV p a' b' c' d').toInt ∧ -5000000000000000 ≤ (zLoV p a' b' c' d').toInt ∧ (zHiV p a' b' c' d').toInt ≤ 5000000000000000 := by
  unfold zLoV zHiV zAp
  by_cases c2 : p = 2
  · simp only [if_pos c2]
    have e1 := zoL_sub (x := a) (y := d) rfl rfl rfl (by omega)
    have e2 := zoL_sub (x := a') (y := d') rfl rfl rfl (by omega)
    have e3 := zoL_sub (x := b) (y := c) rfl rfl rfl (by omega)
    have e4 := zoL_sub (x := b') (y := c') rfl rfl rfl (by omega)
    refine ⟨?_, ?_, ?_, ?_, ?_⟩ <;> omega
  · simp only [if_neg c2]
    by_cases c3 : p = 3
    · simp only [if_pos c3]
      have v1 := zbr (x := a) (y := c) (a := a') (b := b') (c := c') (d := d') (by omega) (by omega) (by omega) (by omega)
      have v2 := zbr (x := a) (y := d) (a := a') (b := b') (c := c') (d := d') (by omega) (by omega) (by omega) (by omega)
      have v3 := zbr (x := b) (y := c) (a := a') (b := b') (c := c') (d := d') (by omega) (by omega) (by omega) (by omega)
      have v4 := zbr (x := b) (y := d) (a := a') (b := b') (c := c') (d := d') (by omega) (by omega) (by omega) (by omega)
      have l := zLs4 (zPr a c 1) (zPr a d 1) (zPr b c 1) (zPr b d 1)
      have m := zMx4 (zPr a c 1) (zPr a d 1) (zPr b c 1) (zPr b d 1)
      have l' := (zLs4 (zPr a' c' 1) (zPr a' d' 1) (zPr b' c' 1) (zPr b' d' 1)).2
      have m' := (zMx4 (zPr a' c' 1) (zPr a' d' 1) (zPr b' c' 1) (zPr b' d' 1)).2
      have w1 := zmab9 (A := a'.toInt) (B := c'.toInt) (by omega) (by omega)
      have w2 := zmab9 (A := a'.toInt) (B := d'.toInt) (by omega) (by omega)
      have w3 := zmab9 (A := b'.toInt) (B := c'.toInt) (by omega) (by omega)
      have w4 := zmab9 (A := b'.toInt) (B := d'.toInt) (by omega) (by omega)
      rw [zPr_i (a := a') (b := c') (by omega) (by omega), zPr_i (a := a') (b := d') (by omega) (by omega), zPr_i (a := b') (b := c') (by omega) (by omega), zPr_i (a := b') (b := d') (by omega) (by omega)] at l' m'
      generalize a'.toInt * c'.toInt = z1 at w1 l' m'
      generalize a'.toInt * d'.toInt = z2 at w2 l' m'
      generalize b'.toInt * c'.toInt = z3 at w3 l' m'
      generalize b'.toInt * d'.toInt = z4 at w4 l' m'
      generalize (zLs (zLs (zPr a' c' 1) (zPr a' d' 1)) (zLs (zPr b' c' 1) (zPr b' d' 1))).toInt = L' at v1 v2 v3 v4 l' ⊢
      generalize (zMx (zMx (zPr a' c' 1) (zPr a' d' 1)) (zMx (zPr b' c' 1) (zPr b' d' 1))).toInt = M' at v1 v2 v3 v4 m' ⊢
      generalize (zLs (zLs (zPr a c 1) (zPr a d 1)) (zLs (zPr b c 1) (zPr b d 1))).toInt = L at l ⊢
      generalize (zMx (zMx (zPr a c 1) (zPr a d 1)) (zMx (zPr b c 1) (zPr b d 1))).toInt = M at m ⊢
      generalize (zPr a c 1).toInt = r1 at v1 l m
      generalize (zPr a d 1).toInt = r2 at v2 l m
      generalize (zPr b c 1).toInt = r3 at v3 l m
      generalize (zPr b d 1).toInt = r4 at v4 l m
      clear h1 h2
      refine ⟨?_, ?_, ?_, ?_, ?_⟩
      · rcases l.2 with q | q | q | q <;> omega
      · omega
      · rcases m.2 with q | q | q | q <;> omega
      · rcases l' with q | q | q | q <;> omega
      · rcases m' with q | q | q | q <;> omega
    · simp only [if_neg c3]
      by_cases c1 : p = 1
      · simp only [if_pos c1]
        have e1 := zoL_add (x := a) (y := c) rfl rfl rfl (by omega)
        have e2 := zoL_add (x := a') (y := c') rfl rfl rfl (by omega)
        have e3 := zoL_add (x := b) (y := d) rfl rfl rfl (by omega)
        have e4 := zoL_add (x := b') (y := d') rfl rfl rfl (by omega)
        refine ⟨?_, ?_, ?_, ?_, ?_⟩ <;> omega
      · simp only [if_neg c1]
        by_cases c4 : p = 4
        · simp only [if_pos c4]
          have e1 := zLs_i a c
          have e2 := zLs_i a' c'
          have e3 := zLs_i b d
          have e4 := zLs_i b' d'
          refine ⟨?_, ?_, ?_, ?_, ?_⟩ <;> omega
        · simp only [if_neg c4]
          have e1 := zMx_i a c
          have e2 := zMx_i a' c'
          have e3 := zMx_i b d
          have e4 := zMx_i b' d'
          refine ⟨?_, ?_, ?_, ?_, ?_⟩ <;> omega
/-- the narrower RANGE lies in the wider one -/
noncomputable def zIn (lo hi LO HI : Nat → Int64) (m : Int32) : Prop := -1000000000 ≤ (LO m.toNatClampNeg).toInt ∧ (LO m.toNatClampNeg).toInt ≤ (lo m.toNatClampNeg).toInt ∧ (lo m.toNatClampNeg).toInt ≤ (hi m.toNatClampNeg).toInt ∧ (hi m.toNatClampNeg).toInt ≤ (HI m.toNatClampNeg).toInt ∧ (HI m.toNatClampNeg).toInt ≤ 1000000000
theorem zVal_m {m a : Int32} {lo hi LO HI : Nat → Int64} (ha : (-10000000) ≤ a ∧ a ≤ 10000000) (h : m = (-1) ∨ zIn lo hi LO HI m) : -1000000000 ≤ (zVal m a LO).toInt ∧ (zVal m a LO).toInt ≤ (zVal m a lo).toInt ∧ (zVal m a lo).toInt ≤ (zVal m a hi).toInt ∧ (zVal m a hi).toInt ≤ (zVal m a HI).toInt ∧ (zVal m a HI).toInt ≤ 1000000000 := by
  have k1 := Int32.le_iff_toInt_le.mp ha.1
  have k2 := Int32.le_iff_toInt_le.mp ha.2
  rw [show (-10000000 : Int32).toInt = -10000000 by decide +kernel] at k1
  rw [show (10000000 : Int32).toInt = 10000000 by decide +kernel] at k2
  by_cases c : m = (-1)
  · have e : ∀ row : Nat → Int64, (zVal m a row).toInt = a.toInt := fun row => by unfold zVal; rw [if_pos c, z64_i]
    rw [e, e, e, e]
    omega
  · have e : ∀ row : Nat → Int64, zVal m a row = row m.toNatClampNeg := fun row => by unfold zVal; rw [if_neg c]
    rw [e, e, e, e]
    exact h.resolve_left c
theorem zAw_m {m a : Int32} {lo hi LO HI : Nat → Int64} (ha : (-10000000) ≤ a ∧ a ≤ 10000000) (h : m = (-1) ∨ zIn lo hi LO HI m) : 0 ≤ (zAw m a lo hi).toInt ∧ (zAw m a lo hi).toInt ≤ (zAw m a LO HI).toInt ∧ (zAw m a LO HI).toInt ≤ 1000000000 := by
  have v := zVal_m ha h
  unfold zAw
  have a1 := zAb_i (x := zVal m a lo) (by omega)
  have a2 := zAb_i (x := zVal m a hi) (by omega)
  have a3 := zAb_i (x := zVal m a LO) (by omega)
  have a4 := zAb_i (x := zVal m a HI) (by omega)
  have m1 := zMx_i (zAb (zVal m a lo)) (zAb (zVal m a hi))
  have m2 := zMx_i (zAb (zVal m a LO)) (zAb (zVal m a HI))
  generalize (zMx (zAb (zVal m a lo)) (zAb (zVal m a hi))).toInt = u1 at m1 ⊢
  generalize (zMx (zAb (zVal m a LO)) (zAb (zVal m a HI))).toInt = u2 at m2 ⊢
  refine ⟨?_, ?_, ?_⟩ <;> omega
theorem zCe_m {s : Int32} {own e e' : Int64} {m a : Int32} (hs : 1 ≤ s ∧ s ≤ 1000000) (h : m = (-1) ∨ (0 ≤ e.toInt ∧ e.toInt ≤ e'.toInt ∧ e'.toInt ≤ 1000000000)) : 0 ≤ (zCe s.toInt64 m a own e).toInt ∧ (zCe s.toInt64 m a own e).toInt ≤ (zCe s.toInt64 m a own e').toInt ∧ (zCe s.toInt64 m a own e').toInt ≤ 2000000000 := by
  have b1 := zCe_b (a := a) (own := own) hs (h.imp id (fun q => (⟨q.1, by omega⟩ : 0 ≤ e.toInt ∧ e.toInt ≤ 1000000000)))
  have b2 := zCe_b (a := a) (own := own) hs (h.imp id (fun q => (⟨by omega, q.2.2⟩ : 0 ≤ e'.toInt ∧ e'.toInt ≤ 1000000000)))
  refine ⟨b1.1, ?_, b2.2⟩
  have hh := zhf_b hs
  clear b1 b2
  by_cases c : m = (-1)
  · have q : ∀ v : Int64, zCe s.toInt64 m a own v = if a.toInt64 - a.toInt64 / s.toInt64 * s.toInt64 = 0 then 0 else s.toInt64 / 2 := fun v => by unfold zCe; rw [if_pos c]
    rw [q e, q e']
    exact Int.le_refl _
  · have q : ∀ v : Int64, zCe s.toInt64 m a own v = if own - own / s.toInt64 * s.toInt64 = 0 then v else v + s.toInt64 / 2 := fun v => by unfold zCe; rw [if_neg c]
    rw [q e, q e']
    have h := h.resolve_left c
    by_cases d : own - own / s.toInt64 * s.toInt64 = 0
    · rw [if_pos d, if_pos d]; exact h.2.1
    · rw [if_neg d, if_neg d]
      have s1 := zoL_add (x := e) (y := s.toInt64 / 2) rfl rfl rfl (by omega)
      have s2 := zoL_add (x := e') (y := s.toInt64 / 2) rfl rfl rfl (by omega)
      omega
theorem zV_i {a b x y : Int64} (ha : 0 ≤ a.toInt ∧ a.toInt ≤ 2000000000) (hb : 0 ≤ b.toInt ∧ b.toInt ≤ 2000000000) (hx : 0 ≤ x.toInt ∧ x.toInt ≤ 1000000000) (hy : 0 ≤ y.toInt ∧ y.toInt ≤ 1000000000) : (x * b + y * a + a * b).toInt = x.toInt * b.toInt + y.toInt * a.toInt + a.toInt * b.toInt := by
  have p1 : 0 ≤ x.toInt * b.toInt ∧ x.toInt * b.toInt ≤ 1000000000 * 2000000000 := ⟨Int.mul_nonneg hx.1 hb.1, Int.mul_le_mul hx.2 hb.2 hb.1 (by omega)⟩
  have p2 : 0 ≤ y.toInt * a.toInt ∧ y.toInt * a.toInt ≤ 1000000000 * 2000000000 := ⟨Int.mul_nonneg hy.1 ha.1, Int.mul_le_mul hy.2 ha.2 ha.1 (by omega)⟩
  have p3 : 0 ≤ a.toInt * b.toInt ∧ a.toInt * b.toInt ≤ 2000000000 * 2000000000 := ⟨Int.mul_nonneg ha.1 hb.1, Int.mul_le_mul ha.2 hb.2 hb.1 (by omega)⟩
  have m1 := zoL_mul (x := x) (y := b) rfl rfl rfl (by omega)
  have m2 := zoL_mul (x := y) (y := a) rfl rfl rfl (by omega)
  have m3 := zoL_mul (x := a) (y := b) rfl rfl rfl (by omega)
  have s1 := zoL_add (x := x * b) (y := y * a) rfl m1 m2 (by omega)
  exact zoL_add (x := x * b + y * a) (y := a * b) rfl s1 m3 (by omega)
theorem zEr_m {p s : Int32} {a b x y a' b' x' y' : Int64} (hs : 1 ≤ s ∧ s ≤ 1000000) (ha : 0 ≤ a.toInt ∧ a.toInt ≤ a'.toInt ∧ a'.toInt ≤ 2000000000) (hb : 0 ≤ b.toInt ∧ b.toInt ≤ b'.toInt ∧ b'.toInt ≤ 2000000000) (hx : 0 ≤ x.toInt ∧ x.toInt ≤ x'.toInt ∧ x'.toInt ≤ 1000000000) (hy : 0 ≤ y.toInt ∧ y.toInt ≤ y'.toInt ∧ y'.toInt ≤ 1000000000) : (zEr p s.toInt64 a b x y).toInt ≤ (zEr p s.toInt64 a' b' x' y').toInt := by
  have hh := zhf_b hs
  by_cases c0 : p = 0
  · have q : ∀ u v w z : Int64, zEr p s.toInt64 u v w z = s.toInt64 / 2 := fun u v w z => by unfold zEr; rw [if_pos c0]
    rw [q a b x y, q a' b' x' y']
    exact Int.le_refl _
  · by_cases c1 : p = 1 ∨ p = 2
    · have q : ∀ u v w z : Int64, zEr p s.toInt64 u v w z = u + v := fun u v w z => by unfold zEr; rw [if_neg c0, if_pos c1]
      rw [q a b x y, q a' b' x' y']
      have s1 := zoL_add (x := a) (y := b) rfl rfl rfl (by omega)
      have s2 := zoL_add (x := a') (y := b') rfl rfl rfl (by omega)
      omega
    · by_cases c3 : p = 3
      · have q : ∀ u v w z : Int64, zEr p s.toInt64 u v w z = -zFd (-(w * v + z * u + u * v)) 1000 + s.toInt64 / 2 + 1 := fun u v w z => by unfold zEr; rw [if_neg c0, if_neg c1, if_pos c3]
        rw [q a b x y, q a' b' x' y']
        have v := zV_b (a := a) (b := b) (x := x) (y := y) ⟨ha.1, by omega⟩ ⟨hb.1, by omega⟩ ⟨hx.1, by omega⟩ ⟨hy.1, by omega⟩
        have v' := zV_b (a := a') (b := b') (x := x') (y := y') ⟨by omega, ha.2.2⟩ ⟨by omega, hb.2.2⟩ ⟨by omega, hx.2.2⟩ ⟨by omega, hy.2.2⟩
        have i := zV_i (a := a) (b := b) (x := x) (y := y) ⟨ha.1, by omega⟩ ⟨hb.1, by omega⟩ ⟨hx.1, by omega⟩ ⟨hy.1, by omega⟩
        have i' := zV_i (a := a') (b := b') (x := x') (y := y') ⟨by omega, ha.2.2⟩ ⟨by omega, hb.2.2⟩ ⟨by omega, hx.2.2⟩ ⟨by omega, hy.2.2⟩
        have z := zceil v.1 (by omega)
        have z' := zceil v'.1 (by omega)
        rw [← z.1, ← z'.1]
        have m1 : x.toInt * b.toInt ≤ x'.toInt * b'.toInt := Int.mul_le_mul hx.2.1 hb.2.1 hb.1 (by omega)
        have m2 : y.toInt * a.toInt ≤ y'.toInt * a'.toInt := Int.mul_le_mul hy.2.1 ha.2.1 ha.1 (by omega)
        have m3 : a.toInt * b.toInt ≤ a'.toInt * b'.toInt := Int.mul_le_mul ha.2.1 hb.2.1 hb.1 (by omega)
        have V1 : (x * b + y * a + a * b).toInt ≤ (x' * b' + y' * a' + a' * b').toInt := by rw [i, i']; omega
        clear i i' m1 m2 m3
        generalize (x * b + y * a + a * b) = V at v z V1 ⊢
        generalize (x' * b' + y' * a' + a' * b') = V' at v' z' V1 ⊢
        have s1 := zoL_add (x := (V + 999) / 1000) (y := s.toInt64 / 2) rfl z.2 rfl (by omega)
        have s2 := zoL_add (x := (V + 999) / 1000 + s.toInt64 / 2) (y := 1) rfl s1 (show (1 : Int64).toInt = 1 by decide +kernel) (by omega)
        have t1 := zoL_add (x := (V' + 999) / 1000) (y := s.toInt64 / 2) rfl z'.2 rfl (by omega)
        have t2 := zoL_add (x := (V' + 999) / 1000 + s.toInt64 / 2) (y := 1) rfl t1 (show (1 : Int64).toInt = 1 by decide +kernel) (by omega)
        rw [s2, t2]
        omega
      · have q : ∀ u v w z : Int64, zEr p s.toInt64 u v w z = zMx u v := fun u v w z => by unfold zEr; rw [if_neg c0, if_neg c1, if_neg c3]
        rw [q a b x y, q a' b' x' y']
        have m1 := zMx_i a b
        have m2 := zMx_i a' b'
        omega
theorem zAmt_m {L H L2 H2 E E2 M : Int64} (l1 : L2.toInt ≤ L.toInt) (l2 : L.toInt ≤ H.toInt) (l3 : H.toInt ≤ H2.toInt) (b1 : -1000000000 ≤ L2.toInt) (b2 : H2.toInt ≤ 1000000000) (e0 : 0 ≤ E.toInt) (e1 : E.toInt ≤ E2.toInt) (e2 : E2.toInt ≤ 1000000000) (h : zMx (zAb L2) (zAb H2) + E2 ≤ M) : zMx (zAb L) (zAb H) + E ≤ M := by
  have a1 := zAb_i (x := L) (by omega)
  have a2 := zAb_i (x := H) (by omega)
  have a3 := zAb_i (x := L2) (by omega)
  have a4 := zAb_i (x := H2) (by omega)
  have m1 := zMx_i (zAb L) (zAb H)
  have m2 := zMx_i (zAb L2) (zAb H2)
  have u1 : 0 ≤ (zMx (zAb L) (zAb H)).toInt ∧ (zMx (zAb L) (zAb H)).toInt ≤ (zMx (zAb L2) (zAb H2)).toInt ∧ (zMx (zAb L2) (zAb H2)).toInt ≤ 1000000000 := by
    refine ⟨?_, ?_, ?_⟩ <;> omega
  clear a1 a2 a3 a4 m1 m2
  have s1 := zoL_add (x := zMx (zAb L) (zAb H)) (y := E) rfl rfl rfl (by omega)
  have s2 := zoL_add (x := zMx (zAb L2) (zAb H2)) (y := E2) rfl rfl rfl (by omega)
  have k := Int64.le_iff_toInt_le.mp h
  apply Int64.le_iff_toInt_le.mpr
  omega
set_option maxHeartbeats 2000000 in
theorem zLH_m {i wn cF : Int32} {mb mb' : Int64} {nN op fx al made amt lets mNN mO m1 m2 mX mW : Nat → Int32} {mA mB lo hi LO HI : Nat → Int64} (hk : zN01 i cF nN op fx al made amt lets mNN mO m1 m2 mX mW mA mB) (pa : made (2 * i + 0).toNatClampNeg = (-1) ∨ zIn lo hi LO HI (made (2 * i + 0).toNatClampNeg)) (pb : made (2 * i + 1).toNatClampNeg = (-1) ∨ zIn lo hi LO HI (made (2 * i + 1).toNatClampNeg)) (hw : op wn.toNatClampNeg = 0 ∧ 0 ≤ mb.toInt ∧ mb.toInt ≤ mb'.toInt ∧ mb'.toInt ≤ 10000000) : (zLw i op made amt LO HI - (if i = wn then mb' else 0)).toInt ≤ (zLw i op made amt lo hi - (if i = wn then mb else 0)).toInt ∧ (zLw i op made amt lo hi - (if i = wn then mb else 0)).toInt ≤ (zHg i op made amt lo hi + (if i = wn then mb else 0)).toInt ∧ (zHg i op made amt lo hi + (if i = wn then mb else 0)).toInt ≤ (zHg i op made amt LO HI + (if i = wn then mb' else 0)).toInt ∧ -6000000000000000 ≤ (zLw i op made amt LO HI - (if i = wn then mb' else 0)).toInt ∧ (zHg i op made amt LO HI + (if i = wn then mb' else 0)).toInt ≤ 6000000000000000 := by
  obtain ⟨q1, q2, q3, q4, q5, q6, q7, q8, q9, q10, q11, q12, q13, q14, q15, q16, q17⟩ := hk
  by_cases c0 : op i.toNatClampNeg = 0
  · have eL : ∀ u v : Nat → Int64, zLw i op made amt u v = (amt (2 * i + 0).toNatClampNeg).toInt64 := fun u v => by unfold zLw; rw [if_pos c0]
    have eH : ∀ u v : Nat → Int64, zHg i op made amt u v = (amt (2 * i + 1).toNatClampNeg).toInt64 := fun u v => by unfold zHg; rw [if_pos c0]
    rw [eL LO HI, eL lo hi, eH LO HI, eH lo hi]
    have k1 := Int32.le_iff_toInt_le.mp q14.1
    have k2 := Int32.le_iff_toInt_le.mp q14.2
    have k3 := Int32.le_iff_toInt_le.mp q15.1
    have k4 := Int32.le_iff_toInt_le.mp q15.2
    have k5 := Int32.le_iff_toInt_le.mp (q16 c0).2.2
    rw [show (-10000000 : Int32).toInt = -10000000 by decide +kernel] at k1 k3
    rw [show (10000000 : Int32).toInt = 10000000 by decide +kernel] at k2 k4
    have b1 : 0 ≤ (if i = wn then mb else 0).toInt ∧ (if i = wn then mb else 0).toInt ≤ (if i = wn then mb' else 0).toInt ∧ (if i = wn then mb' else 0).toInt ≤ 10000000 := by
      by_cases d : i = wn
      · rw [if_pos d, if_pos d]; exact hw.2
      · rw [if_neg d, if_neg d, zl0]; omega
    generalize (if i = wn then mb else 0) = y at b1 ⊢
    generalize (if i = wn then mb' else 0) = y' at b1 ⊢
    have g1 := z64_i (amt (2 * i + 0).toNatClampNeg)
    have g2 := z64_i (amt (2 * i + 1).toNatClampNeg)
    generalize (amt (2 * i + 0).toNatClampNeg).toInt = v1 at *
    generalize (amt (2 * i + 1).toNatClampNeg).toInt = v2 at *
    generalize (amt (2 * i + 0).toNatClampNeg).toInt64 = w1 at *
    generalize (amt (2 * i + 1).toNatClampNeg).toInt64 = w2 at *
    have s1 := zoL_sub (x := w1) (y := y) rfl g1 rfl (by omega)
    have s2 := zoL_sub (x := w1) (y := y') rfl g1 rfl (by omega)
    have s3 := zoL_add (x := w2) (y := y) rfl g2 rfl (by omega)
    have s4 := zoL_add (x := w2) (y := y') rfl g2 rfl (by omega)
    rw [s1, s2, s3, s4]
    refine ⟨?_, ?_, ?_, ?_, ?_⟩ <;> omega
  · have d : ¬ i = wn := fun w => c0 (by rw [w]; exact hw.1)
    rw [if_neg d, if_neg d, Int64.sub_zero, Int64.sub_zero, Int64.add_zero, Int64.add_zero]
    have eL : ∀ u v : Nat → Int64, zLw i op made amt u v = zLoV (op i.toNatClampNeg) (zVal (made (2 * i + 0).toNatClampNeg) (amt (2 * i + 0).toNatClampNeg) u) (zVal (made (2 * i + 0).toNatClampNeg) (amt (2 * i + 0).toNatClampNeg) v) (zVal (made (2 * i + 1).toNatClampNeg) (amt (2 * i + 1).toNatClampNeg) u) (zVal (made (2 * i + 1).toNatClampNeg) (amt (2 * i + 1).toNatClampNeg) v) := fun u v => by unfold zLw; rw [if_neg c0]
    have eH : ∀ u v : Nat → Int64, zHg i op made amt u v = zHiV (op i.toNatClampNeg) (zVal (made (2 * i + 0).toNatClampNeg) (amt (2 * i + 0).toNatClampNeg) u) (zVal (made (2 * i + 0).toNatClampNeg) (amt (2 * i + 0).toNatClampNeg) v) (zVal (made (2 * i + 1).toNatClampNeg) (amt (2 * i + 1).toNatClampNeg) u) (zVal (made (2 * i + 1).toNatClampNeg) (amt (2 * i + 1).toNatClampNeg) v) := fun u v => by unfold zHg; rw [if_neg c0]
    rw [eL LO HI, eL lo hi, eH LO HI, eH lo hi]
    obtain ⟨m1, m2, m3, m4, m5⟩ := zLoV_m (p := op i.toNatClampNeg) (zVal_m q14 pa) (zVal_m q15 pb)
    exact ⟨m1, m2, m3, by omega, by omega⟩
set_option maxHeartbeats 8000000 in
theorem zMono {cF cc cN inp : Int32} {nF nN stp mst prc al made amt op fx jn lets gof mF mN mCst mNF mNN mS mM mC mW mO m1 m2 mX mG mTr : Nat → Int32} {mA mB : Nat → Int64} {wn : Int32} {mb mb' : Int64} {lo hi LO HI er0 er1 : Nat → Int64} {ch wd wd' : Nat → Int32} {x x' : Int32 × Int32 × Int32 × (Nat → Int64)} (T : zTN cF cc cN inp nF nN stp mst prc al made amt op fx jn lets mF mN mNF mNN mS mM mC mW mCst mO m1 m2 mX mG mA mB) (R : zRN cN wn mb op made amt wd lo hi) (R' : zRN cN wn mb' op made amt wd' LO HI) (hw : op wn.toNatClampNeg = 0 ∧ 0 ≤ mb.toInt ∧ mb.toInt ≤ mb'.toInt ∧ mb'.toInt ≤ 10000000) (C : zCh cN cF gof ch mTr) (h1 : fn_X7_reckon cF cN gof ch stp op made er0 amt lo hi mst al = some x) (h2 : fn_X7_reckon cF cN gof ch stp op made er1 amt LO HI mst al = some x') (e : ¬ x'.1 = 0) : x.1 = 1 := by
  obtain ⟨⟨f1, f2, f3⟩, ⟨n1, n2, n3⟩, hC, hz, hp, hI, hf, hn, hg⟩ := T
  have hs : ∀ f : Int32, 0 ≤ f → f < cF → 1 ≤ stp f.toNatClampNeg := fun f f0 f1 => (hf f f0 f1).2.2.2.2.1.1
  unfold fn_X7_reckon at h1 h2
  revert e
  refine zl_ip2 (P := fun x x' => ¬ x'.1 = 0 → x.1 = 1) (fun s t => t.1 = s.1 ∧ 0 ≤ s.1 ∧ s.1 ≤ cN ∧ s.2.1 = 0 ∧ t.2.1 = 0 ∧ (∀ j : Int32, 0 ≤ j → j < s.1 → (0 ≤ (s.2.2 j.toNatClampNeg).toInt ∧ (s.2.2 j.toNatClampNeg).toInt ≤ (t.2.2 j.toNatClampNeg).toInt ∧ (t.2.2 j.toNatClampNeg).toInt ≤ 1000000000) ∧ zIn lo hi LO HI j)) ?_ _ _ _ _ _ _ ?_ h1 h2
  rotate_left
  · exact ⟨rfl, (show (0 : Int32) ≤ 0 by decide), n2, rfl, rfl, fun j j0 j1 => absurd j1 (by show ¬ j < 0; grind)⟩
  intro s t k1 k2 o1 o2 ⟨R1, R2, R3, R4, R5, R7⟩ hb ho1 ho2
  obtain ⟨i, rs, er⟩ := s
  obtain ⟨k, rt, em⟩ := t
  dsimp only at R1 R2 R3 R4 R5 R7 ho1 ho2
  subst R1 R4 R5
  by_cases c : cN ≤ k
  · rw [if_pos c] at ho1
    rw [← Option.some.inj ho1]
    exact fun _ => rfl
  · rw [if_neg c] at ho1 ho2
    have hk : 0 ≤ k ∧ k < cN := ⟨R2, Int32.not_le.mp c⟩
    have h14 : 0 ≤ k ∧ k < 14 := ⟨R2, zW2 hk.2 n3⟩
    have hn1 := hn k hk.1 hk.2
    obtain ⟨-, -, t1, t2⟩ := C k hk.1 hk.2
    obtain ⟨-, g2, g3, -, g5, g6, -⟩ := hf _ t1 t2
    have ok := zOk_of hn1
    obtain ⟨q1, q2, q3, q4, q5, q6, q7, q8, q9, q10, q11, q12, q13, q14, q15, q16, q17⟩ := hn k hk.1 hk.2
    have part : ∀ m : Int32, (-1) ≤ m → m < k → m = (-1) ∨ ((0 ≤ (er m.toNatClampNeg).toInt ∧ (er m.toNatClampNeg).toInt ≤ (em m.toNatClampNeg).toInt ∧ (em m.toNatClampNeg).toInt ≤ 1000000000) ∧ zIn lo hi LO HI m) := by
      intro m m0 m1
      by_cases w : m = (-1)
      · exact Or.inl w
      · exact Or.inr (R7 m (zW1 m0 w).1 m1)
    have pa := part _ q12.1 q12.2
    have pb := part _ q13.1 q13.2
    obtain ⟨E, E2, eJ, eJ2, bE1, bE2, bE3⟩ : ∃ E E2 : Int64, fn_X7_errorOf k cF cN gof ch stp op made er amt lo hi = some E ∧ fn_X7_errorOf k cF cN gof ch stp op made em amt LO HI = some E2 ∧ 0 ≤ E.toInt ∧ E.toInt ≤ E2.toInt ∧ E2.toInt ≤ 9000000000000000 := by
      have ha := zCe_m (a := amt (2 * k + 0).toNatClampNeg) (own := (stp (mTr (made (2 * k + 0).toNatClampNeg).toNatClampNeg).toNatClampNeg).toInt64) g5 (pa.imp id (fun q => q.1))
      have hb' := zCe_m (a := amt (2 * k + 1).toNatClampNeg) (own := (stp (mTr (made (2 * k + 1).toNatClampNeg).toNatClampNeg).toNatClampNeg).toInt64) g5 (pb.imp id (fun q => q.1))
      have hxx := zAw_m q14 (pa.imp id (fun q => q.2))
      have hyy := zAw_m q15 (pb.imp id (fun q => q.2))
      have na := Int.le_trans ha.2.1 ha.2.2
      have nb := Int.le_trans hb'.2.1 hb'.2.2
      have nx := Int.le_trans hxx.2.1 hxx.2.2
      have ny := Int.le_trans hyy.2.1 hyy.2.2
      have wa := Int.le_trans ha.1 ha.2.1
      have wb := Int.le_trans hb'.1 hb'.2.1
      have wx := Int.le_trans hxx.1 hxx.2.1
      have wy := Int.le_trans hyy.1 hyy.2.1
      have eJ := zErJ (amt := amt) (er := er) (lo := lo) (hi := hi) n3 (Int32.le_refl _) f3 C hk hs ok (fun _ a b x y ea eb ex ey => by
        have v := zV_b (a := a) (b := b) (x := x) (y := y) (by rw [ea]; exact ⟨ha.1, na⟩) (by rw [eb]; exact ⟨hb'.1, nb⟩) (by rw [ex]; exact ⟨hxx.1, nx⟩) (by rw [ey]; exact ⟨hyy.1, ny⟩)
        exact ⟨v.1, by have := v.2; omega⟩)
      have eJ2 := zErJ (amt := amt) (er := em) (lo := LO) (hi := HI) n3 (Int32.le_refl _) f3 C hk hs ok (fun _ a b x y ea eb ex ey => by
        have v := zV_b (a := a) (b := b) (x := x) (y := y) (by rw [ea]; exact ⟨wa, ha.2.2⟩) (by rw [eb]; exact ⟨wb, hb'.2.2⟩) (by rw [ex]; exact ⟨wx, hxx.2.2⟩) (by rw [ey]; exact ⟨wy, hyy.2.2⟩)
        exact ⟨v.1, by have := v.2; omega⟩)
      have b1 := zEr_b (p := op k.toNatClampNeg) g5 ⟨ha.1, na⟩ ⟨hb'.1, nb⟩ ⟨hxx.1, nx⟩ ⟨hyy.1, ny⟩
      have b2 := zEr_b (p := op k.toNatClampNeg) g5 ⟨wa, ha.2.2⟩ ⟨wb, hb'.2.2⟩ ⟨wx, hxx.2.2⟩ ⟨wy, hyy.2.2⟩
      exact ⟨_, _, eJ, eJ2, b1.1, zEr_m g5 ha hb' hxx hyy, b2.2⟩
    obtain ⟨L, H, L2, H2, r1, r2, y1, y2, l1, l2, l3, l4, l5⟩ : ∃ L H L2 H2 : Int64, lo k.toNatClampNeg = zHd L ∧ hi k.toNatClampNeg = zHd H ∧ LO k.toNatClampNeg = zHd L2 ∧ HI k.toNatClampNeg = zHd H2 ∧ L2.toInt ≤ L.toInt ∧ L.toInt ≤ H.toInt ∧ H.toInt ≤ H2.toInt ∧ -6000000000000000 ≤ L2.toInt ∧ H2.toInt ≤ 6000000000000000 :=
      ⟨_, _, _, _, (R k hk.1 hk.2).1, (R k hk.1 hk.2).2.1, (R' k hk.1 hk.2).1, (R' k hk.1 hk.2).2.1, zLH_m hn1 (pa.imp id (fun q => q.2)) (pb.imp id (fun q => q.2)) hw⟩
    rw [eJ, zb_some] at ho1
    rw [eJ2, zb_some] at ho2
    obtain ⟨-, ho1⟩ := zg_s ho1
    obtain ⟨-, ho2⟩ := zg_s ho2
    rw [zFmtOf n3 C hk, zb_some, zMstOf f3 ⟨t1, t2⟩, zb_some, zAmtOf h14, zb_some] at ho1 ho2
    have eE1 : vp_updL er k.toNatClampNeg E k.toNatClampNeg = E := by rw [zupL R2 R2, if_pos rfl]
    have eE2 : vp_updL em k.toNatClampNeg E2 k.toNatClampNeg = E2 := by rw [zupL R2 R2, if_pos rfl]
    rw [eE1] at ho1
    rw [eE2] at ho2
    simp only [zn, zj] at ho1 ho2
    have bM : (mst (mTr k.toNatClampNeg).toNatClampNeg).toInt ≤ 1000000000 := by
      have := Int32.le_iff_toInt_le.mp g6.2
      rw [show (1000000000 : Int32).toInt = 1000000000 by decide +kernel] at this
      exact this
    have A2 := zAm_eq (M := mst (mTr k.toNatClampNeg).toNatClampNeg) (L := L2) (H := H2) (E := E2) ⟨l4, by omega⟩ ⟨by omega, l5⟩ ⟨by omega, bE3⟩ bM
    have A1 := zAm_eq (M := mst (mTr k.toNatClampNeg).toNatClampNeg) (L := L) (H := H) (E := E) ⟨by omega, by omega⟩ ⟨by omega, by omega⟩ ⟨bE1, by omega⟩ bM
    rw [← y1, ← y2] at A2
    rw [← r1, ← r2] at A1
    by_cases d : zMx (zAb (LO k.toNatClampNeg)) (zAb (HI k.toNatClampNeg)) + E2 ≤ (mst (mTr k.toNatClampNeg).toNatClampNeg).toInt64
    · have d2 := A2.1.mp d
      obtain ⟨w1, w2, w3, w4, w5⟩ := A2.2 d2
      have d1 := zAmt_m l1 l2 l3 w3.1 w4.2 bE1 bE2 w5 d2
      obtain ⟨v1, v2, v3, v4, v5⟩ := A1.2 d1
      have d3 := A1.1.mpr d1
      rw [if_pos ((lg_cmp_le _ _).mpr d), zIsAns n3 hk, zb_some] at ho2
      rw [if_pos ((lg_cmp_le _ _).mpr d3), zIsAns n3 hk, zb_some] at ho1
      have go : k1 (k + 1, 0, vp_updL er k.toNatClampNeg E) = some o1 → k2 (k + 1, 0, vp_updL em k.toNatClampNeg E2) = some o2 → ¬ o2.1 = 0 → o1.1 = 1 := by
        intro z1 z2
        refine hb _ _ _ _ ?_ z1 z2
        refine ⟨rfl, (zN14 hk.1 hk.2 n3).2.2.2.2.1, (zN14 hk.1 hk.2 n3).2.2.2.2.2, rfl, rfl, fun j j0 j1 => ?_⟩
        have j1 : j < k + 1 := j1
        show (0 ≤ (vp_updL er k.toNatClampNeg E j.toNatClampNeg).toInt ∧ (vp_updL er k.toNatClampNeg E j.toNatClampNeg).toInt ≤ (vp_updL em k.toNatClampNeg E2 j.toNatClampNeg).toInt ∧ (vp_updL em k.toNatClampNeg E2 j.toNatClampNeg).toInt ≤ 1000000000) ∧ zIn lo hi LO HI j
        by_cases w : j = k
        · subst w
          rw [zupL j0 j0, zupL j0 j0, if_pos rfl, if_pos rfl]
          refine ⟨⟨bE1, bE2, w5⟩, ?_⟩
          unfold zIn
          rw [v1, v2, w1, w2]
          exact ⟨w3.1, l1, l2, l3, w4.2⟩
        · rw [zupL R2 j0, zupL R2 j0, if_neg w, if_neg w]
          exact R7 j j0 ((zlt1 (zN14 hk.1 hk.2 n3).1 j1).resolve_left w)
      have e10 : ¬ (1 : Int32) = 0 := by decide
      by_cases e : al k.toNatClampNeg = (-1)
      · rw [if_pos e, if_pos rfl, if_pos trivial] at ho1 ho2
        exact go ho1 ho2
      · rw [if_neg e, if_neg e10] at ho1 ho2
        by_cases w : E2 ≤ (al k.toNatClampNeg).toInt64
        · have w' : E ≤ (al k.toNatClampNeg).toInt64 := Int64.le_iff_toInt_le.mpr (by have := Int64.le_iff_toInt_le.mp w; omega)
          rw [if_pos ((lg_cmp_le _ _).mpr w'), if_pos trivial] at ho1
          rw [if_pos ((lg_cmp_le _ _).mpr w), if_pos trivial] at ho2
          exact go ho1 ho2
        · rw [if_neg (fun q => w ((lg_cmp_le _ _).mp q)), if_neg (by decide)] at ho2
          rw [← Option.some.inj ho2]
          exact fun q => absurd rfl q
    · rw [if_neg (fun q => d ((lg_cmp_le _ _).mp q)), if_neg (by decide)] at ho2
      rw [← Option.some.inj ho2]
      exact fun q => absurd rfl q
/-! by halves: two searches of the last one that PASSES -/
noncomputable def zWy (p cF cN : Int32) (op made amt gof ch stp mst al : Nat → Int32) (v : Int32) : Prop := ∃ (g1 g2 : Nat → Int64) (g3 : Nat → Int32) (g4 : Nat → Int64) (o : Int32 × (Nat → Int64) × (Nat → Int64) × (Nat → Int32) × Int32 × Int32 × (Nat → Int64)), fn_X11_passesLonger p v cF cN op made amt g1 g2 g3 gof ch stp g4 mst al = some o ∧ ¬ o.1 = 0
noncomputable def zWn (p cF cN : Int32) (op made amt gof ch stp mst al : Nat → Int32) (v : Int32) : Prop := ∃ (g1 g2 : Nat → Int64) (g3 : Nat → Int32) (g4 : Nat → Int64) (o : Int32 × (Nat → Int64) × (Nat → Int64) × (Nat → Int32) × Int32 × Int32 × (Nat → Int64)), fn_X11_passesLonger p v cF cN op made amt g1 g2 g3 gof ch stp g4 mst al = some o ∧ o.1 = 0
noncomputable def zWb (p cF cN : Int32) (op made amt gof ch stp mst al : Nat → Int32) (v : Int32) : Prop := (0 ≤ v ∧ v ≤ 10000000) ∧ (v = 0 ∨ zWy p cF cN op made amt gof ch stp mst al v) ∧ (v = 10000000 ∨ zWn p cF cN op made amt gof ch stp mst al (v + 1))
theorem zFar {v : Int32} (hv : 0 ≤ v ∧ v ≤ 10000000) : 0 ≤ v.toInt64.toInt ∧ v.toInt64.toInt ≤ 10000000 := by
  have k1 := Int32.le_iff_toInt_le.mp hv.1
  have k2 := Int32.le_iff_toInt_le.mp hv.2
  rw [zi_0] at k1
  rw [show (10000000 : Int32).toInt = 10000000 by decide +kernel] at k2
  rw [z64_i]
  exact ⟨k1, k2⟩
theorem zPL_e {cF cc cN inp : Int32} {nF nN stp mst prc al made amt op fx jn lets gof hand mF mN mCst mNF mNN mS mM mC mW mO m1 m2 mX mG mTr : Nat → Int32} {mA mB mLe mGe mEr : Nat → Int64} {p v : Int32} {g1 g2 g4 : Nat → Int64} {g3 : Nat → Int32} {u : Int32 × (Nat → Int64) × (Nat → Int64) × (Nat → Int32) × Int32 × Int32 × (Nat → Int64)} {q : Int32 × Int32 × Int32 × (Nat → Int64) × (Nat → Int64) × (Nat → Int64)} (T : zTN cF cc cN inp nF nN stp mst prc al made amt op fx jn lets mF mN mNF mNN mS mM mC mW mCst mO m1 m2 mX mG mA mB) (hp : op p.toNatClampNeg = 0) (hv : 0 ≤ v ∧ v ≤ 10000000) (C : zCh cN cF gof hand mTr) (hu : fn_X11_passesLonger p v cF cN op made amt g1 g2 g3 gof hand stp g4 mst al = some u) (hq : fn_X12_passes p v.toInt64 mN mO m1 m2 mLe mA mB mGe mTr mS mEr mM mW = some q) : u.1 = q.1 := by
  have T0 := T
  obtain ⟨-, hN, -, -, -, -, -, hn, -⟩ := T0
  unfold fn_X11_passesLonger at hu
  obtain ⟨f, hf, hu⟩ := zb_s hu
  obtain ⟨a, ha, hu⟩ := zb_s hu
  rw [← Option.some.inj hu]
  have R := zFill hN.2 (fun i i0 i1 => zOk_of (hn i i0 i1)) hf
  exact (zPassEq T R (Or.inr ⟨hp, zFar hv⟩) C ha hq).1
theorem zWyn {cF cc cN inp : Int32} {nF nN stp mst prc al made amt op fx jn lets gof hand mF mN mCst mNF mNN mS mM mC mW mO m1 m2 mX mG mTr : Nat → Int32} {mA mB : Nat → Int64} {p v w : Int32} (T : zTN cF cc cN inp nF nN stp mst prc al made amt op fx jn lets mF mN mNF mNN mS mM mC mW mCst mO m1 m2 mX mG mA mB) (hp : op p.toNatClampNeg = 0) (C : zCh cN cF gof hand mTr) (hv : 0 ≤ v) (hw : w ≤ 10000000) (h1 : zWn p cF cN op made amt gof hand stp mst al v) (h2 : zWy p cF cN op made amt gof hand stp mst al w) : w < v := by
  obtain ⟨g1, g2, g3, g4, o, h1, e1⟩ := h1
  obtain ⟨k1, k2, k3, k4, o', h2, e2⟩ := h2
  have T0 := T
  obtain ⟨-, hN, -, -, -, -, -, hn, -⟩ := T0
  by_cases c : v ≤ w
  · exfalso
    unfold fn_X11_passesLonger at h1 h2
    obtain ⟨f, hf, h1⟩ := zb_s h1
    obtain ⟨a, ha, h1⟩ := zb_s h1
    obtain ⟨f', hf', h2⟩ := zb_s h2
    obtain ⟨a', ha', h2⟩ := zb_s h2
    rw [← Option.some.inj h1] at e1
    rw [← Option.some.inj h2] at e2
    have e1 : a.1 = 0 := e1
    have e2 : ¬ a'.1 = 0 := e2
    have R := zFill hN.2 (fun i i0 i1 => zOk_of (hn i i0 i1)) hf
    have R' := zFill hN.2 (fun i i0 i1 => zOk_of (hn i i0 i1)) hf'
    have b1 := zFar (v := v) ⟨hv, Int32.le_trans c hw⟩
    have b2 := zFar (v := w) ⟨Int32.le_trans hv c, hw⟩
    have b3 := Int32.le_iff_toInt_le.mp c
    have b4 : v.toInt64.toInt ≤ w.toInt64.toInt := by rw [z64_i, z64_i]; exact b3
    have z := zMono T R R' ⟨hp, b1.1, b4, b2.2⟩ C ha ha' e2
    rw [z] at e1
    exact absurd e1 (by decide)
  · exact Int32.not_le.mp c
theorem zWb_u {cF cc cN inp : Int32} {nF nN stp mst prc al made amt op fx jn lets gof hand mF mN mCst mNF mNN mS mM mC mW mO m1 m2 mX mG mTr : Nat → Int32} {mA mB : Nat → Int64} {p v w : Int32} (T : zTN cF cc cN inp nF nN stp mst prc al made amt op fx jn lets mF mN mNF mNN mS mM mC mW mCst mO m1 m2 mX mG mA mB) (hp : op p.toNatClampNeg = 0) (C : zCh cN cF gof hand mTr) (h1 : zWb p cF cN op made amt gof hand stp mst al v) (h2 : zWb p cF cN op made amt gof hand stp mst al w) : v = w := by
  obtain ⟨⟨a1, a2⟩, a3, a4⟩ := h1
  obtain ⟨⟨b1, b2⟩, b3, b4⟩ := h2
  by_cases l : v < w
  · exfalso
    have y := b3.resolve_left (zNz1 a1 l)
    have n := a4.resolve_left (zNm1 l b2)
    exact (zVx1 a1 l b2).2 (zWyn T hp C (zVx1 a1 l b2).1 b2 n y)
  · by_cases l2 : w < v
    · exfalso
      have y := a3.resolve_left (zNz1 b1 l2)
      have n := b4.resolve_left (zNm1 l2 a2)
      exact (zVx1 b1 l2 a2).2 (zWyn T hp C (zVx1 b1 l2 a2).1 a2 n y)
    · exact Int32.le_antisymm (Int32.not_lt.mp l2) (Int32.not_lt.mp l)
theorem zi10 : (10000000 : Int32).toInt = 10000000 := by decide +kernel
theorem zi2 : (2 : Int32).toInt = 2 := by decide +kernel
/-- the middle, as the class takes it -/
theorem zmidJ {a b : Int32} (h : 0 ≤ a ∧ a < b ∧ b ≤ 10000000) : ((a + b) / 2).toInt = (a.toInt + b.toInt) / 2 := by
  have k1 := Int32.le_iff_toInt_le.mp h.1
  have k2 := Int32.lt_iff_toInt_lt.mp h.2.1
  have k3 := Int32.le_iff_toInt_le.mp h.2.2
  rw [zi_0] at k1
  rw [zi10] at k3
  have s := zo_add (x := a) (y := b) (z := a + b) rfl rfl rfl (by omega)
  rw [Int32.toInt_div_of_ne_right _ _ (by decide), s, zi2, Int.tdiv_eq_ediv_of_nonneg (by omega)]
/-- the middle, as the reference takes it -/
theorem zmidM {a b : Int32} (h : 0 ≤ a ∧ a < b ∧ b ≤ 10000000) : (a + ((b - a) + 1) / 2).toInt = a.toInt + (b.toInt - a.toInt + 1) / 2 := by
  have k1 := Int32.le_iff_toInt_le.mp h.1
  have k2 := Int32.lt_iff_toInt_lt.mp h.2.1
  have k3 := Int32.le_iff_toInt_le.mp h.2.2
  rw [zi_0] at k1
  rw [zi10] at k3
  have s := zo_sub (x := b) (y := a) (z := b - a) rfl rfl rfl (by omega)
  have s2 := zo_add (x := b - a) (y := 1) (z := (b - a) + 1) rfl s zi_1' (by omega)
  have s3 : (((b - a) + 1) / 2).toInt = (b.toInt - a.toInt + 1) / 2 := by
    rw [Int32.toInt_div_of_ne_right _ _ (by decide), s2, zi2, Int.tdiv_eq_ediv_of_nonneg (by omega)]
  exact zo_add (x := a) (y := ((b - a) + 1) / 2) rfl rfl s3 (by omega)
theorem zhalve {g g' n : Nat} (h : g * 2 ^ n ≤ 9999999) (h2 : 2 * g' ≤ g) : g' * 2 ^ (n + 1) ≤ 9999999 := by
  have e : g' * 2 ^ (n + 1) = 2 * g' * 2 ^ n := by rw [Nat.pow_succ, Nat.mul_comm (2 ^ n) 2, ← Nat.mul_assoc, Nat.mul_comm g' 2]
  rw [e]
  exact Nat.le_trans (Nat.mul_le_mul_right _ h2) h
theorem zhalf0 {g n : Nat} (h : g * 2 ^ n ≤ 9999999) (hn : 32 ≤ n) : g = 0 := by
  have k : 2 ^ 32 ≤ 2 ^ n := Nat.pow_le_pow_right (by decide) hn
  rcases Nat.eq_zero_or_pos g with q | q
  · exact q
  · have := Nat.mul_le_mul q k
    rw [Nat.one_mul] at this
    have w : (9999999 : Nat) < 2 ^ 32 := by decide
    omega
set_option maxHeartbeats 8000000 in
theorem zeq_widest {cF cc cN inp gcl mHh mWn mFa mFw rcA rcW roA roW : Int32} {nF nN stp mst prc al made amt op fx jn lets gof gfx rwd hand mF mN mCst mNF mNN mS mM mC mW mO m1 m2 mX mG mH mTr gwd : Nat → Int32} {rlo rhi mA mB mLe mGe mEr rcE roE glo ghi : Nat → Int64} {mWb : Int64} {p1 : Int32} {x : Int32 × Int32 × Int32 × (Nat → Int64) × (Nat → Int64) × (Nat → Int64) × (Nat → Int32) × Int32 × Int32 × (Nat → Int64)} {y : Int32 × Int32 × Int64 × Int32 × Int32 × (Nat → Int32) × (Nat → Int64) × (Nat → Int64) × (Nat → Int64)} (hG : ∀ i : Nat, 0 ≤ gof i ∧ gof i ≤ 13) (T : zTN cF cc cN inp nF nN stp mst prc al made amt op fx jn lets mF mN mNF mNN mS mM mC mW mCst mO m1 m2 mX mG mA mB) (R : zRN cN (-1) 0 op made amt rwd rlo rhi) (H : zHN cN cF gcl mHh gof gfx hand mH) (h1 : fn_X11_widest p1 cF cN op gcl rcA rcW gof hand stp made rcE amt rlo rhi mst al glo ghi gwd roA roW roE = some x) (h2 : fn_X12_widest p1 mWn mWb mHh mFa mFw mN mO mH mTr m1 m2 mLe mA mB mGe mS mEr mM mW = some y) : x.1 = y.1 := by
  have hN := T.2.1
  have hF := T.1
  have T0 := T
  obtain ⟨-, -, -, -, -, -, -, hn, -⟩ := T0
  unfold fn_X11_widest at h1
  unfold fn_X12_widest at h2
  rw [zIsNum (by rw [hN.1]; exact hN.2.1), zb_some, hN.1] at h2
  by_cases d : 0 ≤ p1 ∧ p1 < cN
  · rw [if_neg (by rw [zif1]; exact fun q => q d)] at h2
    obtain ⟨-, h2⟩ := zg_s h2
    have eO := (hn p1 d.1 d.2).2.1
    have e10 : ¬ (1 : Int32) = 0 := by decide
    by_cases e : op p1.toNatClampNeg = 0
    · have eI : fn_X9_isInput p1 cN op = some 1 := by
        unfold fn_X9_isInput
        rw [zHasN, zb_some, if_neg (by rw [zif1]; exact fun q => q d), zg_in 14 (by decide +kernel) ⟨d.1, zW2 d.2 hN.2.2⟩, if_pos e]
      rw [eI, zb_some, if_neg e10] at h1
      rw [if_pos (eO.symm.trans e)] at h2
      obtain ⟨a, ha, h1⟩ := zb_s h1
      obtain ⟨b, hb, h2⟩ := zb_s h2
      rcases zHandP T R H ha hb with ⟨_, z1, z2⟩ | ⟨c, ⟨e1, -, -, -⟩, tr⟩
      · rw [if_pos z1] at h1
        rw [if_pos z2] at h2
        rw [← Option.some.inj h1, ← Option.some.inj h2]
      · have e1 : a.1 = b.1 := e1
        by_cases w : a.1 = 0
        · rw [if_pos w] at h1
          rw [if_pos (e1.symm.trans w)] at h2
          rw [← Option.some.inj h1, ← Option.some.inj h2]
        · rw [if_neg w] at h1
          rw [if_neg (fun q => w (e1.trans q))] at h2
          obtain ⟨C, -⟩ := H.2.2 c.1 c.2
          have C' := zCh_c C tr
          obtain ⟨u, hu, h1⟩ := zb_s h1
          refine zWb_u (p := p1) T e C' ?_ ?_
          · by_cases v : u.1 = 0
            · rw [if_pos v] at h1
              refine zl_ip (P := fun x : Int32 × Int32 × Int32 × (Nat → Int64) × (Nat → Int64) × (Nat → Int64) × (Nat → Int32) × Int32 × Int32 × (Nat → Int64) => zWb p1 cF cN op made amt gof hand stp mst al x.1) (fun s => 0 ≤ s.1 ∧ s.1 < s.2.1 ∧ s.2.1 ≤ 10000000 ∧ (0 ≤ s.2.2.1 ∧ s.2.2.1 ≤ 32) ∧ (s.1 = 0 ∨ zWy p1 cF cN op made amt gof hand stp mst al s.1) ∧ zWn p1 cF cN op made amt gof hand stp mst al s.2.1 ∧ ∃ g : Nat, (s.2.1.toInt : Int) = (s.1.toInt : Int) + 1 + (g : Int) ∧ g * 2 ^ s.2.2.1.toNatClampNeg ≤ 9999999) ?_ _ _ _ ?_ h1
              rotate_left
              · exact ⟨(show (0 : Int32) ≤ 0 by decide), (show (0 : Int32) < 10000000 by decide), (show (10000000 : Int32) ≤ 10000000 by decide), ⟨(show (0 : Int32) ≤ 0 by decide), (show (0 : Int32) ≤ 32 by decide)⟩, Or.inl rfl, ⟨_, _, _, _, u, hu, v⟩, 9999999, (show (10000000 : Int32).toInt = (0 : Int32).toInt + 1 + ((9999999 : Nat) : Int) by decide +kernel), (show 9999999 * 2 ^ (0 : Int32).toNatClampNeg ≤ 9999999 by decide +kernel)⟩
              intro s back o ⟨H1, H2, H3, H4, H5, H6, g, H7, H8⟩ hbk ho
              obtain ⟨good, bad, n, fa, fw, lo, hi, wd, er⟩ := s
              dsimp only at H1 H2 H3 H4 H5 H6 H7 H8 ho
              have fin : bad = good + 1 → zWb p1 cF cN op made amt gof hand stp mst al good := fun q => ⟨⟨H1, Int32.le_trans (Int32.le_of_lt H2) H3⟩, H5, Or.inr (by rw [← q]; exact H6)⟩
              by_cases k : 32 ≤ n
              · rw [if_pos k] at ho
                have n32 : n = 32 := Int32.le_antisymm H4.2 k
                have g0 := zhalf0 H8 (by rw [n32]; decide +kernel)
                rw [← Option.some.inj ho]
                refine fin (Int32.toInt_inj.mp ?_)
                have k3 := Int32.le_iff_toInt_le.mp H3
                have k1 := Int32.le_iff_toInt_le.mp H1
                rw [zi10] at k3
                rw [zi_0] at k1
                rw [zo_add (x := good) (y := 1) rfl rfl zi_1' (by omega), H7, g0]
                omega
              · rw [if_neg k] at ho
                by_cases l : bad - good ≤ 1
                · rw [if_pos l] at ho
                  rw [← Option.some.inj ho]
                  exact fin (zBg1 H1 H2 H3 l)
                · rw [if_neg l] at ho
                  obtain ⟨q, hq, ho⟩ := zb_s ho
                  have mid := zmidJ (a := good) (b := bad) ⟨H1, H2, H3⟩
                  have k1 := Int32.le_iff_toInt_le.mp H1
                  have k2 := Int32.lt_iff_toInt_lt.mp H2
                  have k3 := Int32.le_iff_toInt_le.mp H3
                  rw [zi_0] at k1
                  rw [zi10] at k3
                  have kl : good.toInt + 1 < bad.toInt := by
                    have l' : ¬ (bad - good).toInt ≤ (1 : Int32).toInt := fun q => l (Int32.le_iff_toInt_le.mpr q)
                    rw [zo_sub (x := bad) (y := good) rfl rfl rfl (by omega), zi_1'] at l'
                    omega
                  have m0 : good < (good + bad) / 2 := Int32.lt_iff_toInt_lt.mpr (by rw [mid]; omega)
                  have m1 : (good + bad) / 2 < bad := Int32.lt_iff_toInt_lt.mpr (by rw [mid]; omega)
                  have nn : (n + 1).toNatClampNeg = n.toNatClampNeg + 1 := zNx H4.1 (Int32.le_trans H4.2 (by decide))
                  by_cases r : q.1 = 0
                  · rw [if_pos r] at ho
                    refine hbk _ _ ?_ ho
                    refine ⟨H1, m0, (show (good + bad) / 2 ≤ 10000000 from Int32.le_trans (Int32.le_of_lt m1) H3), (zN32 H4.1 k), H5, ⟨_, _, _, _, q, hq, r⟩, ((good + bad) / 2).toInt.toNat - good.toInt.toNat - 1, ?_, ?_⟩
                    · show ((good + bad) / 2).toInt = good.toInt + 1 + _
                      omega
                    · show _ * 2 ^ (n + 1).toNatClampNeg ≤ _
                      rw [nn]
                      exact zhalve H8 (by omega)
                  · rw [if_neg r] at ho
                    refine hbk _ _ ?_ ho
                    refine ⟨(show 0 ≤ (good + bad) / 2 from Int32.le_trans H1 (Int32.le_of_lt m0)), m1, H3, (zN32 H4.1 k), Or.inr ⟨_, _, _, _, q, hq, r⟩, H6, bad.toInt.toNat - ((good + bad) / 2).toInt.toNat - 1, ?_, ?_⟩
                    · show bad.toInt = ((good + bad) / 2).toInt + 1 + _
                      omega
                    · show _ * 2 ^ (n + 1).toNatClampNeg ≤ _
                      rw [nn]
                      exact zhalve H8 (by omega)
            · rw [if_neg v] at h1
              rw [← Option.some.inj h1]
              exact ⟨⟨(show (0 : Int32) ≤ 10000000 by decide), (show (10000000 : Int32) ≤ 10000000 by decide)⟩, Or.inr ⟨_, _, _, _, u, hu, v⟩, Or.inl rfl⟩
          · refine zl_ip (P := fun y : Int32 × Int32 × Int64 × Int32 × Int32 × (Nat → Int32) × (Nat → Int64) × (Nat → Int64) × (Nat → Int64) => zWb p1 cF cN op made amt gof hand stp mst al y.1) (fun s => 0 ≤ s.1 ∧ s.1 ≤ s.2.1 ∧ s.2.1 ≤ 10000000 ∧ (s.1 = 0 ∨ zWy p1 cF cN op made amt gof hand stp mst al s.1) ∧ (s.2.1 = 10000000 ∨ zWn p1 cF cN op made amt gof hand stp mst al (s.2.1 + 1))) ?_ _ _ _ ?_ h2
            rotate_left
            · exact ⟨(show (0 : Int32) ≤ 0 by decide), (show (0 : Int32) ≤ 10000000 by decide), (show (10000000 : Int32) ≤ 10000000 by decide), Or.inl rfl, Or.inl rfl⟩
            intro s back o ⟨H1, H2, H3, H4, H5⟩ hbk ho
            obtain ⟨low, high, wb, fa, fw, le, ge, em⟩ := s
            dsimp only at H1 H2 H3 H4 H5 ho
            by_cases k : high ≤ low
            · rw [if_pos k] at ho
              rw [← Option.some.inj ho]
              have el : high = low := Int32.le_antisymm k H2
              subst el
              exact ⟨⟨H1, H3⟩, H4, H5⟩
            · rw [if_neg k] at ho
              obtain ⟨q, hq, ho⟩ := zb_s ho
              have mid := zmidM (a := low) (b := high) ⟨H1, Int32.not_le.mp k, H3⟩
              generalize low + (high - low + 1) / 2 = m at mid hq ho
              have k1 := Int32.le_iff_toInt_le.mp H1
              have k3 := Int32.le_iff_toInt_le.mp H3
              have k2 : ¬ high.toInt ≤ low.toInt := fun q => k (Int32.le_iff_toInt_le.mpr q)
              rw [zi_0] at k1
              rw [zi10] at k3
              have m0 : low < m := Int32.lt_iff_toInt_lt.mpr (by rw [mid]; omega)
              have m1 : m ≤ high := Int32.le_iff_toInt_le.mpr (by rw [mid]; omega)
              obtain ⟨u2, hu2, -⟩ := sf_X11_passesLonger p1 m cF cN op made amt (fun _ => 0) (fun _ => 0) (fun _ => 0) gof hand stp (fun _ => 0) mst al hF.2 hN.2 (fun _ => ⟨(show (0 : Int32) ≤ 0 by decide), (show (0 : Int32) ≤ 1 by decide)⟩) hG
              have eq := zPL_e T e ⟨Int32.le_trans H1 (Int32.le_of_lt m0), Int32.le_trans m1 H3⟩ C' hu2 hq
              by_cases r : q.1 = 0
              · rw [if_pos r] at ho
                refine hbk _ _ ?_ ho
                refine ⟨H1, (zMm1 H1 m0 (Int32.le_trans m1 H3)).1, (zMm1 H1 m0 (Int32.le_trans m1 H3)).2.1, H4, Or.inr ?_⟩
                show zWn p1 cF cN op made amt gof hand stp mst al (m - 1 + 1)
                rw [(zMm1 H1 m0 (Int32.le_trans m1 H3)).2.2.1]
                exact ⟨_, _, _, _, u2, hu2, eq.trans r⟩
              · rw [if_neg r] at ho
                refine hbk _ _ ?_ ho
                exact ⟨(zMm1 H1 m0 (Int32.le_trans m1 H3)).2.2.2, m1, H3, Or.inr ⟨_, _, _, _, u2, hu2, fun z => r (eq.symm.trans z)⟩, H5⟩
    · have eI : fn_X9_isInput p1 cN op = some 0 := by
        unfold fn_X9_isInput
        rw [zHasN, zb_some, if_neg (by rw [zif1]; exact fun q => q d), zg_in 14 (by decide +kernel) ⟨d.1, zW2 d.2 hN.2.2⟩, if_neg e]
      rw [eI, zb_some, if_pos rfl] at h1
      rw [if_neg (fun q => e (eO.trans q))] at h2
      rw [← Option.some.inj h1, ← Option.some.inj h2]
  · have eI : fn_X9_isInput p1 cN op = some 0 := by
      unfold fn_X9_isInput
      rw [zHasN, zb_some, if_pos (by rw [zif1]; exact d)]
    rw [eI, zb_some, if_pos rfl] at h1
    rw [if_pos (by rw [zif1]; exact d)] at h2
    rw [← Option.some.inj h1, ← Option.some.inj h2]
/-! what holds of both between two calls: the CHOICE at hand, what was refused, the seed, what is kept of searches -/
theorem zHN_0 {cF gcl mHh : Int32} {gof gfx hand mH : Nat → Int32} (h : mHh = 0) : zHN 0 cF gcl mHh gof gfx hand mH := ⟨fun q => absurd q (by decide), fun _ => Or.inl h, fun q => absurd q (by decide)⟩
theorem zHN_stay {cN cF gcl : Int32} {gof gfx : Nat → Int32} {mF mN mNF mNN mS mM mC mW mCst mO m1 m2 mX mG : Nat → Int32} {mA mB : Nat → Int64} {a1 a2 a3 a4 a5 b1 b2 b3 : Int32} {r1 r2 r3 r4 r5 r6 s1 s2 : Nat → Int32} {l1 l2 : Nat → Int64} {x : Int32 × Int32 × Int32 × Int32 × Int32 × Int32 × Int32 × Int32 × Int32 × Int32 × Int32 × Int32 × Int32 × Int32 × Int32 × Int32 × Int32 × (Nat → Int32) × (Nat → Int32) × (Nat → Int32) × (Nat → Int32) × (Nat → Int32) × (Nat → Int32) × (Nat → Int32) × (Nat → Int32) × (Nat → Int32) × (Nat → Int32) × (Nat → Int32) × (Nat → Int32) × Int32 × Int32 × Int32 × (Nat → Int32) × (Nat → Int32) × (Nat → Int32) × (Nat → Int64) × (Nat → Int64) × (Nat → Int32) × (Nat → Int32) × Int32 × Int32 × Int32 × Int32 × Int32 × (Nat → Int32)} {y : Int32 × Int32 × Int32 × Int64 × Int32 × Int32 × Int32 × Int32 × Int32 × Int32 × Int32 × Int32 × Int32 × Int32 × (Nat → Int32) × (Nat → Int32) × (Nat → Int32) × (Nat → Int32) × (Nat → Int32) × (Nat → Int32) × (Nat → Int32) × (Nat → Int32) × (Nat → Int32) × (Nat → Int32) × (Nat → Int32) × (Nat → Int32) × (Nat → Int32) × (Nat → Int32) × (Nat → Int64) × (Nat → Int64) × (Nat → Int32) × (Nat → Int32)} (H : zHN cN cF gcl b1 gof gfx r1 s1) (Q : zTQ a1 a2 a3 a4 a5 r1 r2 r3 r4 r5 r6 l1 l2 b1 b2 b3 s1 s2 mF mN mNF mNN mS mM mC mW mCst mO m1 m2 mX mG mA mB x y) (e : x.2.2.1 = 0) : zHN cN cF gcl y.2.2.2.2.2.1 gof gfx x.2.2.2.2.2.2.2.2.2.2.2.2.2.2.2.2.2.2.2.2.2.2.2.2.2.2.2.2.2.2.2.2.2.2.2.2.2.2.1 y.2.2.2.2.2.2.2.2.2.2.2.2.2.2.2.2.2.2.2.2.2.2.2.2.2.2.2.2.2.2.1 := by
  rcases Q with ⟨_, _, _, q1, q2, q3, _⟩ | ⟨q, _⟩
  · rw [q1, q2, q3]; exact H
  · rw [q] at e; exact absurd e (by decide)
theorem zHN_swap {mF mN mNF mNN mS mM mC mW mCst mO m1 m2 mX mG : Nat → Int32} {mA mB : Nat → Int64} {a1 a2 a3 a4 a5 b1 b2 b3 : Int32} {r1 r2 r3 r4 r5 r6 s1 s2 : Nat → Int32} {l1 l2 : Nat → Int64} {x : Int32 × Int32 × Int32 × Int32 × Int32 × Int32 × Int32 × Int32 × Int32 × Int32 × Int32 × Int32 × Int32 × Int32 × Int32 × Int32 × Int32 × (Nat → Int32) × (Nat → Int32) × (Nat → Int32) × (Nat → Int32) × (Nat → Int32) × (Nat → Int32) × (Nat → Int32) × (Nat → Int32) × (Nat → Int32) × (Nat → Int32) × (Nat → Int32) × (Nat → Int32) × Int32 × Int32 × Int32 × (Nat → Int32) × (Nat → Int32) × (Nat → Int32) × (Nat → Int64) × (Nat → Int64) × (Nat → Int32) × (Nat → Int32) × Int32 × Int32 × Int32 × Int32 × Int32 × (Nat → Int32)} {y : Int32 × Int32 × Int32 × Int64 × Int32 × Int32 × Int32 × Int32 × Int32 × Int32 × Int32 × Int32 × Int32 × Int32 × (Nat → Int32) × (Nat → Int32) × (Nat → Int32) × (Nat → Int32) × (Nat → Int32) × (Nat → Int32) × (Nat → Int32) × (Nat → Int32) × (Nat → Int32) × (Nat → Int32) × (Nat → Int32) × (Nat → Int32) × (Nat → Int32) × (Nat → Int32) × (Nat → Int64) × (Nat → Int64) × (Nat → Int32) × (Nat → Int32)} (Q : zTQ a1 a2 a3 a4 a5 r1 r2 r3 r4 r5 r6 l1 l2 b1 b2 b3 s1 s2 mF mN mNF mNN mS mM mC mW mCst mO m1 m2 mX mG mA mB x y) (e : x.2.2.1 = 1) : zHN x.2.2.2.2.2.2.2.2.2.1 x.2.2.2.2.2.2.2.1 x.2.2.2.2.2.2.2.2.2.2.2.2.2.2.2.2.2.2.2.2.2.2.2.2.2.2.2.2.2.2.2.1 y.2.2.2.2.2.1 x.2.2.2.2.2.2.2.2.2.2.2.2.2.2.2.2.2.2.2.2.2.2.2.2.2.2.2.2.2.2.2.2.1 x.2.2.2.2.2.2.2.2.2.2.2.2.2.2.2.2.2.2.2.2.2.2.2.2.2.2.2.2.2.2.2.2.2.2.1 x.2.2.2.2.2.2.2.2.2.2.2.2.2.2.2.2.2.2.2.2.2.2.2.2.2.2.2.2.2.2.2.2.2.2.2.2.2.2.1 y.2.2.2.2.2.2.2.2.2.2.2.2.2.2.2.2.2.2.2.2.2.2.2.2.2.2.2.2.2.2.1 := by
  have T := zTN_swap Q e
  have G := zGp_swap Q e
  rcases Q with ⟨q, _⟩ | ⟨_, _, _, _, _, q1, q2, _⟩
  · rw [q] at e; exact absurd e (by decide)
  · exact zHN_of T G q1 q2
theorem zRf_task {mF mN mNF mNN mS mM mC mW mCst mO m1 m2 mX mG : Nat → Int32} {mA mB : Nat → Int64} {a1 a2 a3 a4 a5 b1 b2 b3 : Int32} {r1 r2 r3 r4 r5 r6 s1 s2 : Nat → Int32} {l1 l2 : Nat → Int64} {x : Int32 × Int32 × Int32 × Int32 × Int32 × Int32 × Int32 × Int32 × Int32 × Int32 × Int32 × Int32 × Int32 × Int32 × Int32 × Int32 × Int32 × (Nat → Int32) × (Nat → Int32) × (Nat → Int32) × (Nat → Int32) × (Nat → Int32) × (Nat → Int32) × (Nat → Int32) × (Nat → Int32) × (Nat → Int32) × (Nat → Int32) × (Nat → Int32) × (Nat → Int32) × Int32 × Int32 × Int32 × (Nat → Int32) × (Nat → Int32) × (Nat → Int32) × (Nat → Int64) × (Nat → Int64) × (Nat → Int32) × (Nat → Int32) × Int32 × Int32 × Int32 × Int32 × Int32 × (Nat → Int32)} {y : Int32 × Int32 × Int32 × Int64 × Int32 × Int32 × Int32 × Int32 × Int32 × Int32 × Int32 × Int32 × Int32 × Int32 × (Nat → Int32) × (Nat → Int32) × (Nat → Int32) × (Nat → Int32) × (Nat → Int32) × (Nat → Int32) × (Nat → Int32) × (Nat → Int32) × (Nat → Int32) × (Nat → Int32) × (Nat → Int32) × (Nat → Int32) × (Nat → Int32) × (Nat → Int32) × (Nat → Int64) × (Nat → Int64) × (Nat → Int32) × (Nat → Int32)} (E : r2 = s2) (Q : zTQ a1 a2 a3 a4 a5 r1 r2 r3 r4 r5 r6 l1 l2 b1 b2 b3 s1 s2 mF mN mNF mNN mS mM mC mW mCst mO m1 m2 mX mG mA mB x y) : x.2.2.2.2.2.2.2.2.2.2.2.2.2.2.2.2.2.2.2.2.2.2.2.2.2.2.2.2.2.2.2.2.2.2.2.2.2.2.2.2.2.2.2.2 = y.2.2.2.2.2.2.2.2.2.2.2.2.2.2.2.2.2.2.2.2.2.2.2.2.2.2.2.2.2.2.2 := by
  rcases Q with ⟨_, _, _, _, _, _, _, _, _, _, _, _, _, q1, q2⟩ | ⟨_, _, _, _, _, _, _, _, _, _, _, _, _, _, q1, q2⟩
  · rw [q1, q2, E]
  · rw [q1, q2, E]
theorem zFC_stay {cF cc cN gc gfr gcl uAn uMn uBs uBp : Int32} {stp mst prc al made amt op gof gfx mF mN mCst mNF mNN mS mM mC mW mO m1 m2 mX mG uP uE : Nat → Int32} {rlo rhi mA mB : Nat → Int64} {nQP nQE : Nat} {a1 a2 a3 a4 a5 b1 b2 b3 : Int32} {r1 r2 r3 r4 r5 r6 s1 s2 : Nat → Int32} {l1 l2 : Nat → Int64} {x : Int32 × Int32 × Int32 × Int32 × Int32 × Int32 × Int32 × Int32 × Int32 × Int32 × Int32 × Int32 × Int32 × Int32 × Int32 × Int32 × Int32 × (Nat → Int32) × (Nat → Int32) × (Nat → Int32) × (Nat → Int32) × (Nat → Int32) × (Nat → Int32) × (Nat → Int32) × (Nat → Int32) × (Nat → Int32) × (Nat → Int32) × (Nat → Int32) × (Nat → Int32) × Int32 × Int32 × Int32 × (Nat → Int32) × (Nat → Int32) × (Nat → Int32) × (Nat → Int64) × (Nat → Int64) × (Nat → Int32) × (Nat → Int32) × Int32 × Int32 × Int32 × Int32 × Int32 × (Nat → Int32)} {y : Int32 × Int32 × Int32 × Int64 × Int32 × Int32 × Int32 × Int32 × Int32 × Int32 × Int32 × Int32 × Int32 × Int32 × (Nat → Int32) × (Nat → Int32) × (Nat → Int32) × (Nat → Int32) × (Nat → Int32) × (Nat → Int32) × (Nat → Int32) × (Nat → Int32) × (Nat → Int32) × (Nat → Int32) × (Nat → Int32) × (Nat → Int32) × (Nat → Int32) × (Nat → Int32) × (Nat → Int64) × (Nat → Int64) × (Nat → Int32) × (Nat → Int32)} (F : zFC cF cc cN gc gfr gcl gof gfx stp mst prc al made amt op rlo rhi a1 uAn uMn uBs uBp uP nQP uE nQE) (Q : zTQ a1 a2 a3 a4 a5 r1 r2 r3 r4 r5 r6 l1 l2 b1 b2 b3 s1 s2 mF mN mNF mNN mS mM mC mW mCst mO m1 m2 mX mG mA mB x y) (e : x.2.2.1 = 0) : zFC cF cc cN gc gfr gcl gof gfx stp mst prc al made amt op rlo rhi x.2.2.2.2.2.2.2.2.2.2.2.2.2.2.2.2.2.2.2.2.2.2.2.2.2.2.2.2.2.2.2.2.2.2.2.2.2.2.2.1 uAn uMn uBs uBp uP nQP uE nQE := by
  rcases Q with ⟨_, _, _, _, _, _, _, _, _, _, q, _⟩ | ⟨q, _⟩
  · rw [q]; exact F
  · rw [q] at e; exact absurd e (by decide)
theorem zFC_swap {cF cc cN gc gfr gcl uAn uMn uBs uBp : Int32} {stp mst prc al made amt op gof gfx mF mN mCst mNF mNN mS mM mC mW mO m1 m2 mX mG uP uE : Nat → Int32} {rlo rhi mA mB : Nat → Int64} {nQP nQE : Nat} {a1 a2 a3 a4 a5 b1 b2 b3 : Int32} {r1 r2 r3 r4 r5 r6 s1 s2 : Nat → Int32} {l1 l2 : Nat → Int64} {x : Int32 × Int32 × Int32 × Int32 × Int32 × Int32 × Int32 × Int32 × Int32 × Int32 × Int32 × Int32 × Int32 × Int32 × Int32 × Int32 × Int32 × (Nat → Int32) × (Nat → Int32) × (Nat → Int32) × (Nat → Int32) × (Nat → Int32) × (Nat → Int32) × (Nat → Int32) × (Nat → Int32) × (Nat → Int32) × (Nat → Int32) × (Nat → Int32) × (Nat → Int32) × Int32 × Int32 × Int32 × (Nat → Int32) × (Nat → Int32) × (Nat → Int32) × (Nat → Int64) × (Nat → Int64) × (Nat → Int32) × (Nat → Int32) × Int32 × Int32 × Int32 × Int32 × Int32 × (Nat → Int32)} {y : Int32 × Int32 × Int32 × Int64 × Int32 × Int32 × Int32 × Int32 × Int32 × Int32 × Int32 × Int32 × Int32 × Int32 × (Nat → Int32) × (Nat → Int32) × (Nat → Int32) × (Nat → Int32) × (Nat → Int32) × (Nat → Int32) × (Nat → Int32) × (Nat → Int32) × (Nat → Int32) × (Nat → Int32) × (Nat → Int32) × (Nat → Int32) × (Nat → Int32) × (Nat → Int32) × (Nat → Int64) × (Nat → Int64) × (Nat → Int32) × (Nat → Int32)} (Q : zTQ a1 a2 a3 a4 a5 r1 r2 r3 r4 r5 r6 l1 l2 b1 b2 b3 s1 s2 mF mN mNF mNN mS mM mC mW mCst mO m1 m2 mX mG mA mB x y) (e : x.2.2.1 = 1) : zFC cF cc cN gc gfr gcl gof gfx stp mst prc al made amt op rlo rhi x.2.2.2.2.2.2.2.2.2.2.2.2.2.2.2.2.2.2.2.2.2.2.2.2.2.2.2.2.2.2.2.2.2.2.2.2.2.2.2.1 uAn uMn uBs uBp uP nQP uE nQE := by
  rcases Q with ⟨q, _⟩ | ⟨_, _, _, _, _, _, _, _, _, _, _, q, _⟩
  · rw [q] at e; exact absurd e (by decide)
  · exact Or.inl q
theorem zLC_stay {cF cc cN gc gcl vSt vPr vTs : Int32} {stp mst prc al made amt op gof gfx mF mN mCst mNF mNN mS mM mC mW mO m1 m2 mX mG vRw : Nat → Int32} {rlo rhi mA mB : Nat → Int64} {a1 a2 a3 a4 a5 b1 b2 b3 : Int32} {r1 r2 r3 r4 r5 r6 s1 s2 : Nat → Int32} {l1 l2 : Nat → Int64} {x : Int32 × Int32 × Int32 × Int32 × Int32 × Int32 × Int32 × Int32 × Int32 × Int32 × Int32 × Int32 × Int32 × Int32 × Int32 × Int32 × Int32 × (Nat → Int32) × (Nat → Int32) × (Nat → Int32) × (Nat → Int32) × (Nat → Int32) × (Nat → Int32) × (Nat → Int32) × (Nat → Int32) × (Nat → Int32) × (Nat → Int32) × (Nat → Int32) × (Nat → Int32) × Int32 × Int32 × Int32 × (Nat → Int32) × (Nat → Int32) × (Nat → Int32) × (Nat → Int64) × (Nat → Int64) × (Nat → Int32) × (Nat → Int32) × Int32 × Int32 × Int32 × Int32 × Int32 × (Nat → Int32)} {y : Int32 × Int32 × Int32 × Int64 × Int32 × Int32 × Int32 × Int32 × Int32 × Int32 × Int32 × Int32 × Int32 × Int32 × (Nat → Int32) × (Nat → Int32) × (Nat → Int32) × (Nat → Int32) × (Nat → Int32) × (Nat → Int32) × (Nat → Int32) × (Nat → Int32) × (Nat → Int32) × (Nat → Int32) × (Nat → Int32) × (Nat → Int32) × (Nat → Int32) × (Nat → Int32) × (Nat → Int64) × (Nat → Int64) × (Nat → Int32) × (Nat → Int32)} (F : zLC cF cc cN gc gcl gof gfx stp mst prc al made amt op rlo rhi a3 vSt vPr vTs vRw) (Q : zTQ a1 a2 a3 a4 a5 r1 r2 r3 r4 r5 r6 l1 l2 b1 b2 b3 s1 s2 mF mN mNF mNN mS mM mC mW mCst mO m1 m2 mX mG mA mB x y) (e : x.2.2.1 = 0) : zLC cF cc cN gc gcl gof gfx stp mst prc al made amt op rlo rhi x.2.2.2.2.2.2.2.2.2.2.2.2.2.2.2.2.2.2.2.2.2.2.2.2.2.2.2.2.2.2.2.2.2.2.2.2.2.2.2.2.2.1 vSt vPr vTs vRw := by
  rcases Q with ⟨_, _, _, _, _, _, _, _, _, _, _, _, q, _⟩ | ⟨q, _⟩
  · rw [q]; exact F
  · rw [q] at e; exact absurd e (by decide)
theorem zLC_swap {cF cc cN gc gcl vSt vPr vTs : Int32} {stp mst prc al made amt op gof gfx mF mN mCst mNF mNN mS mM mC mW mO m1 m2 mX mG vRw : Nat → Int32} {rlo rhi mA mB : Nat → Int64} {a1 a2 a3 a4 a5 b1 b2 b3 : Int32} {r1 r2 r3 r4 r5 r6 s1 s2 : Nat → Int32} {l1 l2 : Nat → Int64} {x : Int32 × Int32 × Int32 × Int32 × Int32 × Int32 × Int32 × Int32 × Int32 × Int32 × Int32 × Int32 × Int32 × Int32 × Int32 × Int32 × Int32 × (Nat → Int32) × (Nat → Int32) × (Nat → Int32) × (Nat → Int32) × (Nat → Int32) × (Nat → Int32) × (Nat → Int32) × (Nat → Int32) × (Nat → Int32) × (Nat → Int32) × (Nat → Int32) × (Nat → Int32) × Int32 × Int32 × Int32 × (Nat → Int32) × (Nat → Int32) × (Nat → Int32) × (Nat → Int64) × (Nat → Int64) × (Nat → Int32) × (Nat → Int32) × Int32 × Int32 × Int32 × Int32 × Int32 × (Nat → Int32)} {y : Int32 × Int32 × Int32 × Int64 × Int32 × Int32 × Int32 × Int32 × Int32 × Int32 × Int32 × Int32 × Int32 × Int32 × (Nat → Int32) × (Nat → Int32) × (Nat → Int32) × (Nat → Int32) × (Nat → Int32) × (Nat → Int32) × (Nat → Int32) × (Nat → Int32) × (Nat → Int32) × (Nat → Int32) × (Nat → Int32) × (Nat → Int32) × (Nat → Int32) × (Nat → Int32) × (Nat → Int64) × (Nat → Int64) × (Nat → Int32) × (Nat → Int32)} (Q : zTQ a1 a2 a3 a4 a5 r1 r2 r3 r4 r5 r6 l1 l2 b1 b2 b3 s1 s2 mF mN mNF mNN mS mM mC mW mCst mO m1 m2 mX mG mA mB x y) (e : x.2.2.1 = 1) : zLC cF cc cN gc gcl gof gfx stp mst prc al made amt op rlo rhi x.2.2.2.2.2.2.2.2.2.2.2.2.2.2.2.2.2.2.2.2.2.2.2.2.2.2.2.2.2.2.2.2.2.2.2.2.2.2.2.2.2.1 vSt vPr vTs vRw := by
  rcases Q with ⟨q, _⟩ | ⟨_, _, _, _, _, _, _, _, _, _, _, _, _, q, _⟩
  · rw [q] at e; exact absurd e (by decide)
  · exact Or.inl q
theorem zrf_feed {p1 p2 p3 p4 p5 v w : Int32} {f1 f2 g1 g2 : Nat → Int32} {o o' : Int32 × Int32 × (Nat → Int32) × (Nat → Int32)} (e : v = w) (hv : 0 ≤ v ∧ v ≤ 1200) (E : f2 = g2) (h1 : fn_X11_feed p1 p2 p3 p4 p5 v f1 f2 = some o) (h2 : fn_X12_feed p1 p2 p3 p4 p5 w g1 g2 = some o') : o.2.2.2 = o'.2.2.2 := by
  subst e E
  unfold fn_X11_feed at h1
  unfold fn_X12_feed at h2
  by_cases c : v ≤ 1180
  · rw [if_pos c] at h1
    rw [if_pos ((zAp20 hv).mp c)] at h2
    obtain ⟨_, _, h1⟩ := zb_s h1
    obtain ⟨_, _, h1⟩ := zb_s h1
    obtain ⟨_, _, h1⟩ := zb_s h1
    obtain ⟨_, _, h1⟩ := zb_s h1
    obtain ⟨_, _, h1⟩ := zb_s h1
    obtain ⟨_, _, h2⟩ := zb_s h2
    obtain ⟨_, _, h2⟩ := zb_s h2
    obtain ⟨_, _, h2⟩ := zb_s h2
    obtain ⟨_, _, h2⟩ := zb_s h2
    obtain ⟨_, _, h2⟩ := zb_s h2
    rw [← Option.some.inj h1, ← Option.some.inj h2]
  · rw [if_neg c] at h1
    rw [if_neg (fun q => c ((zAp20 hv).mpr q))] at h2
    obtain ⟨a, ha, h1⟩ := zb_s h1
    obtain ⟨b, hb, h2⟩ := zb_s h2
    rw [← Option.some.inj h1, ← Option.some.inj h2, zref (by decide) ha, zrefM hb]
theorem zrf_end {p v w : Int32} {f g : Nat → Int32} {o o' : Int32 × Int32 × (Nat → Int32)} (e : v = w) (E : f = g) (h1 : fn_X11_end p v f = some o) (h2 : fn_X12_end p w g = some o') : o.2.2 = o'.2.2 := by
  subst e E
  unfold fn_X11_end at h1
  unfold fn_X12_end at h2
  by_cases c : p < 0
  · rw [if_pos c] at h1 h2
    obtain ⟨a, ha, h1⟩ := zb_s h1
    obtain ⟨b, hb, h2⟩ := zb_s h2
    rw [← Option.some.inj h1, ← Option.some.inj h2, zref (by decide) ha, zrefB hb]
  · rw [if_neg c] at h1 h2
    by_cases c2 : p ≤ v
    · rw [if_pos c2] at h1 h2
      rw [← Option.some.inj h1, ← Option.some.inj h2]
    · rw [if_neg c2] at h1 h2
      obtain ⟨a, ha, h1⟩ := zb_s h1
      obtain ⟨b, hb, h2⟩ := zb_s h2
      rw [← Option.some.inj h1, ← Option.some.inj h2, zref (by decide) ha, zrefB hb]
theorem zrf_seed {p v w : Int32} {f g : Nat → Int32} {o o' : Int32 × Int32 × (Nat → Int32)} (E : f = g) (h1 : fn_X11_seed p v f = some o) (h2 : fn_X12_seed p w g = some o') : o.2.2 = o'.2.2 := by
  subst E
  unfold fn_X11_seed at h1
  unfold fn_X12_seed at h2
  by_cases c : 0 ≤ p
  · rw [if_pos c] at h1 h2
    rw [← Option.some.inj h1, ← Option.some.inj h2]
  · rw [if_neg c] at h1 h2
    obtain ⟨a, ha, h1⟩ := zb_s h1
    obtain ⟨b, hb, h2⟩ := zb_s h2
    rw [← Option.some.inj h1, ← Option.some.inj h2, zref (by decide) ha, zrefB hb]
theorem zsd_seed {p v w : Int32} {f g : Nat → Int32} {o o' : Int32 × Int32 × (Nat → Int32)} (E : v = w ∧ 0 ≤ v) (h1 : fn_X11_seed p v f = some o) (h2 : fn_X12_seed p w g = some o') : o.2.1 = o'.2.1 ∧ 0 ≤ o.2.1 := by
  unfold fn_X11_seed at h1
  unfold fn_X12_seed at h2
  by_cases c : 0 ≤ p
  · rw [if_pos c] at h1 h2
    rw [← Option.some.inj h1, ← Option.some.inj h2]
    exact ⟨rfl, c⟩
  · rw [if_neg c] at h1 h2
    obtain ⟨a, ha, h1⟩ := zb_s h1
    obtain ⟨b, hb, h2⟩ := zb_s h2
    rw [← Option.some.inj h1, ← Option.some.inj h2]
    exact E
