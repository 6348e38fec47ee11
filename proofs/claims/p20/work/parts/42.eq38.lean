/-! take -/
theorem zTakesT {cN : Int32} {mN mH : Nat → Int32} {t o : Nat → Int32} (hN : mN 0 = cN ∧ 0 ≤ cN ∧ cN ≤ 14) (h : fn_X12_takesTried mN t mH = some o) : ∀ i : Int32, 0 ≤ i → i < cN → o i.toNatClampNeg = t i.toNatClampNeg := by
  unfold fn_X12_takesTried at h
  rw [zn01.1, hN.1] at h
  obtain ⟨k, m, h, hm⟩ := zCopyK hN.2 h
  try dsimp only at h
  rw [← Option.some.inj h]
  exact hm
theorem zTakeM {cN mHh mFn mWn mFa mFw mSc mTs mS1 mS2 mS3 mS4 : Int32} {mF mN mCst mS mM mC mW mO m1 m2 mX mG mH mTr mFr mRf mSo mHc mRw mPf mPm : Nat → Int32} {mA mB mLe mGe mEr : Nat → Int64} {mWb : Int64} {p1 : Int32} {y : Int32 × Int32 × Int32 × Int32 × Int32 × Int32 × Int32 × Int32 × Int32 × Int32 × Int32 × (Nat → Int32) × (Nat → Int32) × (Nat → Int32) × (Nat → Int64) × (Nat → Int64) × (Nat → Int64) × (Nat → Int32) × (Nat → Int32) × (Nat → Int32) × (Nat → Int32) × (Nat → Int32) × (Nat → Int32)} (hN : mN 0 = cN ∧ 0 ≤ cN ∧ cN ≤ 14) (h2 : fn_X12_take p1 mFn mWn mWb mHh mFa mFw mSc mTs mS1 mS2 mS3 mS4 mN mG mX mFr mH mTr mCst m1 m2 mC mF mO mLe mA mB mGe mS mEr mM mW mHc mSo mRw mPf mPm mRf = some y) : ∃ b : Int32 × Int32 × Int32 × Int32 × Int32 × Int32 × Int32 × Int32 × Int32 × Int32 × Int32 × (Nat → Int32) × (Nat → Int32) × (Nat → Int64) × (Nat → Int64) × (Nat → Int64) × (Nat → Int32) × (Nat → Int32) × (Nat → Int32) × (Nat → Int32) × (Nat → Int32), fn_X12_canTake p1 mFn mWn mWb mHh mFa mFw mSc mTs mS1 mS2 mS3 mS4 mN mG mX mFr mH mTr mCst m1 m2 mC mF mO mLe mA mB mGe mS mEr mM mW mHc mSo mRw mPf mPm = some b ∧ (b.1 = 0 ∧ y.1 = (-1) ∧ y.2.2.2.2.2.2.2.2.2.2.2.2.1 = mH ∧ y.2.2.2.2.2.2.2.2.2.2.2.2.2.2.2.2.2.2.2.2.2.2 = upd mRf (2 : Int32).toNatClampNeg (mRf (2 : Int32).toNatClampNeg + 1) ∨ ¬ b.1 = 0 ∧ (∀ i : Int32, 0 ≤ i → i < cN → y.2.2.2.2.2.2.2.2.2.2.2.2.1 i.toNatClampNeg = b.2.2.2.2.2.2.2.2.2.2.2.2.1 i.toNatClampNeg) ∧ fn_X12_costTried mCst mN m1 (b.2.2.2.2.2.2.2.2.2.2.2.2.1) m2 mC = some y.1 ∧ y.2.2.2.2.2.2.2.2.2.2.2.2.2.2.2.2.2.2.2.2.2.2 = mRf) := by
  unfold fn_X12_take at h2
  obtain ⟨b, hb, h2⟩ := zb_s h2
  refine ⟨b, hb, ?_⟩
  by_cases c : b.1 = 0
  · rw [if_pos c] at h2
    obtain ⟨r, hr, h2⟩ := zb_s h2
    have er := zrefM hr
    rw [← Option.some.inj h2, er]
    exact Or.inl ⟨c, rfl, rfl, rfl⟩
  · rw [if_neg c] at h2
    obtain ⟨t, ht, h2⟩ := zb_s h2
    obtain ⟨w, hw, h2⟩ := zb_s h2
    rw [← Option.some.inj h2]
    exact Or.inr ⟨c, zTakesT hN ht, hw, rfl⟩
theorem zGc1 {gc : Int32} (hg : 0 ≤ gc ∧ gc ≤ 14) : (-1) ≤ gc - 1 ∧ gc - 1 < gc := by grind
theorem zGc2 {gc g : Int32} (hg : 0 ≤ gc ∧ gc ≤ 14) (h : g < gc) : ¬ gc - 1 < g := by grind
set_option maxHeartbeats 4000000 in
theorem zUnfX {c cF gc : Int32} {gfx into row : Nat → Int32} (hg : 0 ≤ gc ∧ gc ≤ 14) (h : fn_X1_unfold c cF gc gfx into = some row) : ∀ g : Int32, 0 ≤ g → g < gc → ¬ gfx g.toNatClampNeg = (-1) → row g.toNatClampNeg = gfx g.toNatClampNeg := by
  unfold fn_X1_unfold at h
  refine zl_ip (P := fun row : Nat → Int32 => ∀ g : Int32, 0 ≤ g → g < gc → ¬ gfx g.toNatClampNeg = (-1) → row g.toNatClampNeg = gfx g.toNatClampNeg) (fun s => ((-1) ≤ s.2.1 ∧ s.2.1 < gc) ∧ ∀ g : Int32, 0 ≤ g → g < gc → s.2.1 < g → ¬ gfx g.toNatClampNeg = (-1) → s.2.2 g.toNatClampNeg = gfx g.toNatClampNeg) ?_ _ _ _ ?_ h
  rotate_left
  · exact ⟨⟨(zGc1 hg).1, (zGc1 hg).2⟩, fun g g0 g1 g2 => absurd g2 (zGc2 hg g1)⟩
  intro s back o ⟨H1, H2⟩ hb ho
  obtain ⟨r, k, w⟩ := s
  dsimp only at H1 H2 ho
  by_cases d : k < 0
  · rw [if_pos d] at ho
    rw [← Option.some.inj ho]
    exact fun g g0 g1 => H2 g g0 g1 (Int32.lt_of_lt_of_le d g0)
  · rw [if_neg d] at ho
    have k0 : 0 ≤ k := Int32.not_lt.mp d
    have kb : (-1) ≤ k + (-1) ∧ k + (-1) < gc ∧ ∀ g : Int32, k + (-1) < g → g = k ∨ k < g := ⟨(zDn1 k0 H1.2 hg.2).1, (zDn1 k0 H1.2 hg.2).2, fun g q => zDn2 k0 (Int32.le_trans (zN14 k0 H1.2 hg.2).2.2.1 (by decide)) q⟩
    obtain ⟨-, ho⟩ := zg_s ho
    have ho := zn_s ho rfl
    have nxt : ∀ (r2 : Int32) (w2 : Nat → Int32), (∀ g : Int32, 0 ≤ g → ¬ g = k → w2 g.toNatClampNeg = w g.toNatClampNeg) → (¬ gfx k.toNatClampNeg = (-1) → w2 k.toNatClampNeg = gfx k.toNatClampNeg) → back (r2, k + (-1), w2) = some o → ∀ g : Int32, 0 ≤ g → g < gc → ¬ gfx g.toNatClampNeg = (-1) → o g.toNatClampNeg = gfx g.toNatClampNeg := by
      intro r2 w2 e1 e2 hk
      refine hb _ _ ?_ hk
      refine ⟨⟨kb.1, kb.2.1⟩, fun g g0 g1 g2 g3 => ?_⟩
      show w2 g.toNatClampNeg = gfx g.toNatClampNeg
      rcases kb.2.2 g g2 with q | q
      · rw [q] at g3 ⊢; exact e2 g3
      · rw [e1 g g0 (fun z => by rw [z] at q; exact absurd q Int32.lt_irrefl)]
        exact H2 g g0 g1 q g3
    have u1 : ∀ g : Int32, 0 ≤ g → ¬ g = k → upd w k.toNatClampNeg (gfx k.toNatClampNeg) g.toNatClampNeg = w g.toNatClampNeg := fun g g0 q => by rw [zup k0 g0, if_neg q]
    have u2 : upd w k.toNatClampNeg (gfx k.toNatClampNeg) k.toNatClampNeg = gfx k.toNatClampNeg := by rw [zup k0 k0, if_pos rfl]
    by_cases e : gfx k.toNatClampNeg = (-1)
    · rw [if_pos e] at ho
      by_cases f : cF ≤ 0
      · rw [if_pos f] at ho
        exact nxt _ _ u1 (fun _ => u2) ho
      · rw [if_neg f] at ho
        obtain ⟨-, ho⟩ := zd_s ho
        have ho := zn_s ho rfl
        obtain ⟨-, ho⟩ := zd_s ho
        exact nxt _ _ (fun g g0 q => by rw [zup k0 g0, if_neg q]; exact u1 g g0 q) (fun q => absurd e q) ho
    · rw [if_neg e] at ho
      exact nxt _ _ u1 (fun _ => u2) ho
/-- the cheapest CHOICE, taken by both -/
theorem zTake0 {cF cc cN inp gc gfr gcl mHh mFn mWn mFa mFw mSc mTs mS1 mS2 mS3 mS4 uRd uAn uMn uBs uBp uFa uRs : Int32} {nF nN stp mst prc al made amt op fx jn lets gof gfx gld rwd hand mF mN mCst mNF mNN mS mM mC mW mO m1 m2 mX mG mH mTr mFr mSo mHc mRw mPf mPm uP uE uFp uFe uFm uCh : Nat → Int32} {rlo rhi mA mB mLe mGe mEr uRe : Nat → Int64} {mWb : Int64} {nQP nQE nQ3 nQ4 nQ5 : Nat} {a : Int32 × Int32 × Int32 × Int32 × Int32 × Int32 × (Nat → Int32) × Nat × (Nat → Int32) × Nat × (Nat → Int32) × Nat × (Nat → Int32) × Nat × (Nat → Int32) × Nat × (Nat → Int32) × Int32 × Int32 × (Nat → Int64) × (Nat → Int32)} {b : Int32 × Int32 × Int32 × Int32 × Int32 × Int32 × Int32 × Int32 × Int32 × Int32 × Int32 × (Nat → Int32) × (Nat → Int32) × (Nat → Int64) × (Nat → Int64) × (Nat → Int64) × (Nat → Int32) × (Nat → Int32) × (Nat → Int32) × (Nat → Int32) × (Nat → Int32)} (T : zTN cF cc cN inp nF nN stp mst prc al made amt op fx jn lets mF mN mNF mNN mS mM mC mW mCst mO m1 m2 mX mG mA mB) (G : zGp cN gc gfr gcl gof gfx gld fx mG) (R : zRN cN (-1) 0 op made amt rwd rlo rhi) (H : zHN cN cF gcl mHh gof gfx hand mH) (F : zFC cF cc cN gc gfr gcl gof gfx stp mst prc al made amt op rlo rhi uRd uAn uMn uBs uBp uP nQP uE nQE) (h1 : fn_X11_takeCheapest uRd uAn uMn uBs uBp cF cc cN gc gfr gcl al nQP uP nQE uE nQ5 uFm nQ4 uFe nQ3 uFp gfx uCh uFa uRs gof stp op made uRe amt rlo rhi mst prc hand = some a) (h2 : fn_X12_canTake 0 mFn mWn mWb mHh mFa mFw mSc mTs mS1 mS2 mS3 mS4 mN mG mX mFr mH mTr mCst m1 m2 mC mF mO mLe mA mB mGe mS mEr mM mW mHc mSo mRw mPf mPm = some b) : zFC cF cc cN gc gfr gcl gof gfx stp mst prc al made amt op rlo rhi a.2.1 a.2.2.1 a.2.2.2.1 a.2.2.2.2.1 a.2.2.2.2.2.1 a.2.2.2.2.2.2.1 a.2.2.2.2.2.2.2.1 a.2.2.2.2.2.2.2.2.1 a.2.2.2.2.2.2.2.2.2.1 ∧ (a.1 = 0 ∧ b.1 = 0 ∧ a.2.2.2.2.2.2.2.2.2.2.2.2.2.2.2.2.2.2.2.2 = hand ∨ (¬ a.1 = 0 ∧ ¬ b.1 = 0) ∧ zCh cN cF gof a.2.2.2.2.2.2.2.2.2.2.2.2.2.2.2.2.2.2.2.2 b.2.2.2.2.2.2.2.2.2.2.2.2.1 ∧ ∀ g : Int32, 0 ≤ g → g < gc → ¬ gfx g.toNatClampNeg = (-1) → a.2.2.2.2.2.2.2.2.2.2.2.2.2.2.2.2.2.2.2.2 g.toNatClampNeg = gfx g.toNatClampNeg) := by
  have hN := T.2.1
  have gb := zRk_b (G := mG) (p := cN) hN.2.1 hN.2.2
  rw [← G.1.1] at gb
  have gc14 : 0 ≤ gc ∧ gc ≤ 14 := ⟨gb.1, Int32.le_trans gb.2 hN.2.2⟩
  unfold fn_X11_takeCheapest at h1
  unfold fn_X12_canTake at h2
  rw [if_pos rfl] at h2
  obtain ⟨s, hs, h1⟩ := zb_s h1
  obtain ⟨e, he, h2⟩ := zb_s h2
  obtain ⟨fs, ra⟩ := zSea T G F hs
  obtain ⟨re, e2, e3, e4⟩ := zCanS T G H he
  obtain ⟨j, ej, h2⟩ := zj_g h2
  rw [e2] at ej
  -- none in the class
  have cno : (s.1 = 0 ∨ s.2.2.2.2.1 = (-1)) → zFC cF cc cN gc gfr gcl gof gfx stp mst prc al made amt op rlo rhi a.2.1 a.2.2.1 a.2.2.2.1 a.2.2.2.2.1 a.2.2.2.2.2.1 a.2.2.2.2.2.2.1 a.2.2.2.2.2.2.2.1 a.2.2.2.2.2.2.2.2.1 a.2.2.2.2.2.2.2.2.2.1 ∧ a.1 = 0 ∧ a.2.2.2.2.2.2.2.2.2.2.2.2.2.2.2.2.2.2.2.2 = hand := by
    intro q
    by_cases z : s.1 = 0
    · rw [if_pos z] at h1
      rw [← Option.some.inj h1]
      exact ⟨fs, rfl, rfl⟩
    · rw [if_neg z, if_pos (q.resolve_left z)] at h1
      rw [← Option.some.inj h1]
      exact ⟨fs, rfl, rfl⟩
  -- none in the reference
  have mno : ∀ v, j ((-1), v) = some b → b.1 = 0 := by
    intro v hj
    have hj := zj_s ej hj
    try dsimp only at hj
    rw [if_pos rfl, if_pos rfl] at hj
    rw [← Option.some.inj hj]
  rcases re with ⟨r1, r2⟩ | ⟨r1, r2, r3⟩
  · rw [if_pos r1] at h2
    have b0 := mno _ h2
    have c := cno (by
      rcases ra with ⟨q, _⟩ | ⟨_, q2, q3⟩
      · exact Or.inl q
      · rcases q3 with ⟨_, _, w⟩ | ⟨w, _⟩
        · exact Or.inr w
        · exact absurd ⟨q2, w⟩ r2)
    exact ⟨c.1, Or.inl ⟨c.2.1, b0, c.2.2⟩⟩
  · rw [if_neg (show ¬ e.1 = 0 by rw [r1]; decide), e2] at h2
    obtain ⟨c, hc, h2⟩ := zb_s h2
    rcases ra with ⟨_, q⟩ | ⟨q1, _, q3⟩
    · exact absurd r2 q
    · rcases q3 with ⟨w, _⟩ | ⟨_, q, ok, pr, er, w1, w2, w3, w4, -, -⟩
      · exact absurd r3 w
      · have cl : 0 < cN ∧ gcl = 0 := ⟨r2.1, r3⟩
        have b14 : 0 ≤ e.2.1 ∧ e.2.1 ≤ 14 := by rw [e4]; exact (zGfr T G).1
        have w1' : q = zpw cF (e.2.1).toNatClampNeg := by rw [e4]; exact w1
        have ec := zCheapC T G R H cl e3 b14 ⟨w1', w4.1, w4.2⟩ w2 hc
        by_cases z : c.1 = (-1)
        · rw [z] at h2
          have b0 := mno _ h2
          have cc := cno (Or.inr (ec.symm.trans z))
          exact ⟨cc.1, Or.inl ⟨cc.2.1, b0, cc.2.2⟩⟩
        · have nb : ¬ s.2.2.2.2.1 = (-1) := fun y => z (ec.trans y)
          have h2 := zj_s ej h2
          try dsimp only at h2
          rw [if_neg z] at h2
          obtain ⟨t, ht, h2⟩ := zb_s h2
          rw [if_neg z] at h2
          rw [if_neg (show ¬ s.1 = 0 by rw [q1]; decide), if_neg nb] at h1
          obtain ⟨row, hrow, h1⟩ := zb_s h1
          rw [ec] at ht
          rcases w2.2.2.1 with ⟨b1, _⟩ | ⟨b1, _⟩
          · exact absurd b1 nb
          · have bq : 0 ≤ s.2.2.2.2.1 ∧ s.2.2.2.2.1 ≤ 1023 := ⟨b1.1, zK23 b1.2 w4.2⟩
            have C := zUnf T G H cl bq e3.1 e3.2 hrow ht
            rw [← Option.some.inj h1, ← Option.some.inj h2]
            exact ⟨fs, Or.inr ⟨⟨by show ¬ (1 : Int32) = 0; decide, by show ¬ (1 : Int32) = 0; decide⟩, C, zUnfX gc14 hrow⟩⟩
/-- the one BY HALVES -/
theorem zTake1 {cF cc cN inp gc gfr gcl mHh mFn mWn mFa mFw mSc mTs mS1 mS2 mS3 mS4 vRd vSt vPs vPr vTs vFa vRs : Int32} {nF nN stp mst prc al made amt op fx jn lets gof gfx gld rwd hand mF mN mCst mNF mNN mS mM mC mW mO m1 m2 mX mG mH mTr mFr mSo mHc mRw mPf mPm vRw vCd vUn vPf vPt : Nat → Int32} {rlo rhi mA mB mLe mGe mEr vRe : Nat → Int64} {mWb : Int64} {a : Int32 × Int32 × Int32 × Int32 × Int32 × Int32 × (Nat → Int32) × (Nat → Int32) × Int32 × Int32 × (Nat → Int64) × (Nat → Int32) × (Nat → Int32) × (Nat → Int32)} {b : Int32 × Int32 × Int32 × Int32 × Int32 × Int32 × Int32 × Int32 × Int32 × Int32 × Int32 × (Nat → Int32) × (Nat → Int32) × (Nat → Int64) × (Nat → Int64) × (Nat → Int64) × (Nat → Int32) × (Nat → Int32) × (Nat → Int32) × (Nat → Int32) × (Nat → Int32)} (T : zTN cF cc cN inp nF nN stp mst prc al made amt op fx jn lets mF mN mNF mNN mS mM mC mW mCst mO m1 m2 mX mG mA mB) (G : zGp cN gc gfr gcl gof gfx gld fx mG) (R : zRN cN (-1) 0 op made amt rwd rlo rhi) (H : zHN cN cF gcl mHh gof gfx hand mH) (K : zLC cF cc cN gc gcl gof gfx stp mst prc al made amt op rlo rhi vRd vSt vPr vTs vRw) (h1 : fn_X3_goByHalves vRd vSt vPs vPr vTs cF cc cN gc gcl stp vRw gfx vCd vFa vRs gof op made vRe amt rlo rhi mst al prc vUn vPf vPt = some a) (h2 : fn_X12_canTake 1 mFn mWn mWb mHh mFa mFw mSc mTs mS1 mS2 mS3 mS4 mN mG mX mFr mH mTr mCst m1 m2 mC mF mO mLe mA mB mGe mS mEr mM mW mHc mSo mRw mPf mPm = some b) : a.1 = 0 ∧ b.1 = 0 ∨ (¬ a.1 = 0 ∧ ¬ b.1 = 0) ∧ zCh cN cF gof a.2.2.2.2.2.2.1 b.2.2.2.2.2.2.2.2.2.2.2.2.1 ∧ ∀ g : Int32, 0 ≤ g → g < gc → ¬ gfx g.toNatClampNeg = (-1) → a.2.2.2.2.2.2.1 g.toNatClampNeg = gfx g.toNatClampNeg := by
  have hN := T.2.1
  obtain ⟨-, ga⟩ := zGo hN.2.1 K h1
  unfold fn_X12_canTake at h2
  rw [if_neg (by decide), if_pos rfl] at h2
  obtain ⟨c, hc, h2⟩ := zb_s h2
  rw [zn01.1, hN.1] at h2
  have hb : (c.1 = 0 → b.1 = 0) ∧ (¬ c.1 = 0 → ¬ b.1 = 0 ∧ ∀ i : Int32, 0 ≤ i → i < cN → b.2.2.2.2.2.2.2.2.2.2.2.2.1 i.toNatClampNeg = c.2.2.2.2.2.2.2.2.2.2.2.2.2.1 i.toNatClampNeg) := by
    refine zl_ip (P := fun b : Int32 × Int32 × Int32 × Int32 × Int32 × Int32 × Int32 × Int32 × Int32 × Int32 × Int32 × (Nat → Int32) × (Nat → Int32) × (Nat → Int64) × (Nat → Int64) × (Nat → Int64) × (Nat → Int32) × (Nat → Int32) × (Nat → Int32) × (Nat → Int32) × (Nat → Int32) => (c.1 = 0 → b.1 = 0) ∧ (¬ c.1 = 0 → ¬ b.1 = 0 ∧ ∀ i : Int32, 0 ≤ i → i < cN → b.2.2.2.2.2.2.2.2.2.2.2.2.1 i.toNatClampNeg = c.2.2.2.2.2.2.2.2.2.2.2.2.2.1 i.toNatClampNeg)) (fun s => (0 ≤ s.1 ∧ s.1 ≤ cN) ∧ (¬ c.1 = 0 → ∀ i : Int32, 0 ≤ i → i < s.1 → s.2 i.toNatClampNeg = c.2.2.2.2.2.2.2.2.2.2.2.2.2.1 i.toNatClampNeg)) ?_ _ _ _ ?_ h2
    rotate_left
    · exact ⟨⟨Int32.le_refl 0, hN.2.1⟩, fun _ i i0 i1 => absurd i1 (Int32.not_lt.mpr i0)⟩
    intro s back o ⟨H1, H2⟩ hk ho
    obtain ⟨k, r⟩ := s
    dsimp only at H1 H2 ho
    by_cases d : cN ≤ k
    · rw [if_pos d] at ho
      obtain ⟨-, ho⟩ := zt_s ho
      rw [Int32.le_antisymm H1.2 d] at H2
      rw [← Option.some.inj ho]
      exact ⟨fun q => q, fun q => ⟨q, H2 q⟩⟩
    · rw [if_neg d] at ho
      by_cases z : c.1 = 0
      · rw [if_pos z] at ho
        obtain ⟨-, ho⟩ := zt_s ho
        rw [← Option.some.inj ho]
        exact ⟨fun q => q, fun q => absurd z q⟩
      · rw [if_neg z] at ho
        obtain ⟨-, ho⟩ := zg_s ho
        have ho := zn_s ho rfl
        have kb : (0 ≤ k ∧ k < 100000) ∧ 0 ≤ k + 1 ∧ k + 1 ≤ cN := ⟨(zN14 H1.1 (Int32.not_le.mp d) hN.2.2).1, (zN14 H1.1 (Int32.not_le.mp d) hN.2.2).2.2.2.2⟩
        refine hk _ _ ?_ ho
        refine ⟨kb.2, fun q i i0 i1 => ?_⟩
        show upd r k.toNatClampNeg (c.2.2.2.2.2.2.2.2.2.2.2.2.2.1 k.toNatClampNeg) i.toNatClampNeg = c.2.2.2.2.2.2.2.2.2.2.2.2.2.1 i.toNatClampNeg
        rw [zup H1.1 i0]
        rcases zlt1 kb.1 i1 with w | w
        · rw [if_pos w, w]
        · rw [if_neg (fun v => by rw [v] at w; exact absurd w Int32.lt_irrefl)]; exact H2 z i i0 w
  rcases ga with ⟨g1, g2⟩ | ⟨g1, g2⟩
  · exact Or.inl ⟨g2, hb.1 (zHalfNo T H g1 hc)⟩
  · obtain ⟨z1, z2, z3⟩ := zLC_eq T G R H g1 g2 hc
    rcases z2 with z | z
    · exact Or.inl ⟨z1.trans z, hb.1 z⟩
    · obtain ⟨-, -, w3, w4⟩ := z3 z
      have c0 : ¬ c.1 = 0 := by rw [z]; decide
      obtain ⟨b1, b2⟩ := hb.2 c0
      exact Or.inr ⟨⟨by rw [z1]; exact c0, b1⟩, zCh_c w3 b2, w4⟩
/-- the best SINGLE change -/
theorem zTake2 {cF cc cN inp gc gfr gcl mHh mFn mWn mFa mFw mSc mTs mS1 mS2 mS3 mS4 vPa vCe vBg vBf vFa vRs : Int32} {nF nN stp mst prc al made amt op fx jn lets gof gfx gld rwd hand mF mN mCst mNF mNN mS mM mC mW mO m1 m2 mX mG mH mTr mFr mSo mHc mRw mPf mPm vNr : Nat → Int32} {rlo rhi mA mB mLe mGe mEr vRe : Nat → Int64} {mWb : Int64} {a : Int32 × Int32 × Int32 × Int32 × Int32 × (Nat → Int32) × (Nat → Int32) × Int32 × Int32 × (Nat → Int64)} {b : Int32 × Int32 × Int32 × Int32 × Int32 × Int32 × Int32 × Int32 × Int32 × Int32 × Int32 × (Nat → Int32) × (Nat → Int32) × (Nat → Int64) × (Nat → Int64) × (Nat → Int64) × (Nat → Int32) × (Nat → Int32) × (Nat → Int32) × (Nat → Int32) × (Nat → Int32)} (T : zTN cF cc cN inp nF nN stp mst prc al made amt op fx jn lets mF mN mNF mNN mS mM mC mW mCst mO m1 m2 mX mG mA mB) (G : zGp cN gc gfr gcl gof gfx gld fx mG) (R : zRN cN (-1) 0 op made amt rwd rlo rhi) (H : zHN cN cF gcl mHh gof gfx hand mH) (h1 : fn_X11_takeSingle cF cc cN gc gcl vPa vCe vBg vBf hand vNr made gof prc gfx vFa vRs stp op vRe amt rlo rhi mst al = some a) (h2 : fn_X12_canTake 2 mFn mWn mWb mHh mFa mFw mSc mTs mS1 mS2 mS3 mS4 mN mG mX mFr mH mTr mCst m1 m2 mC mF mO mLe mA mB mGe mS mEr mM mW mHc mSo mRw mPf mPm = some b) : a.1 = 0 ∧ b.1 = 0 ∧ a.2.2.2.2.2.1 = hand ∨ (¬ a.1 = 0 ∧ ¬ b.1 = 0) ∧ zCh cN cF gof a.2.2.2.2.2.1 b.2.2.2.2.2.2.2.2.2.2.2.2.1 ∧ ∀ i : Int32, 0 ≤ i → i < cN → ¬ gfx (gof i.toNatClampNeg).toNatClampNeg = (-1) → a.2.2.2.2.2.1 (gof i.toNatClampNeg).toNatClampNeg = gfx (gof i.toNatClampNeg).toNatClampNeg := by
  have hN := T.2.1
  have gb := zRk_b (G := mG) (p := cN) hN.2.1 hN.2.2
  rw [← G.1.1] at gb
  unfold fn_X11_takeSingle at h1
  unfold fn_X12_canTake at h2
  rw [if_neg (by decide), if_neg (by decide), if_pos rfl, zIsTh ⟨hN.1, hN.2.1⟩ H, zb_some] at h2
  rw [zHasC hN.2.1, zb_some] at h1
  by_cases cl : 0 < cN ∧ gcl = 0
  · rw [if_neg (by rw [zif1]; exact fun q => q cl)] at h1 h2
    obtain ⟨l, hl, h1⟩ := zb_s h1
    obtain ⟨f, hf, h1⟩ := zb_s h1
    obtain ⟨m, hm, h2⟩ := zb_s h2
    obtain ⟨th, hth, h2⟩ := zb_s h2
    obtain ⟨-, -, bg⟩ := zLook T G R H cl hl hm
    obtain ⟨C, Dx⟩ := H.2.2 cl.1 cl.2
    unfold fn_X2_isFree at hf
    rcases bg with ⟨q1, _, q3, _⟩ | ⟨q1, q2, q3, q4, q5, q6, q7, q8⟩
    · rw [if_pos (show l.2.2.1 < 0 by rw [q1]; decide)] at hf
      rw [if_pos (Option.some.inj hf).symm] at h1
      rw [if_pos q3, if_pos q3] at h2
      rw [← Option.some.inj h1, ← Option.some.inj h2]
      exact Or.inl ⟨rfl, rfl, rfl⟩
    · rw [if_neg (Int32.not_lt.mpr q1.1), if_neg (Int32.not_le.mpr q1.2)] at hf
      obtain ⟨-, hf⟩ := zg_s hf
      rw [if_pos q2] at hf
      rw [if_neg (show ¬ f = 0 by rw [← Option.some.inj hf]; decide)] at h1
      obtain ⟨-, h1⟩ := zg_s h1
      have n1 : ¬ m.2.2.2.2.2.2.1 = (-1) := fun z => by rw [z] at q3; exact absurd q3.1 (by decide)
      rw [if_neg n1] at h2
      obtain ⟨t, ht, h2⟩ := zb_s h2
      rw [if_neg n1] at h2
      have tr := zTrH hN hth
      have tg := zTrG hN ht
      have gj : gof (m.2.2.2.2.2.2.1).toNatClampNeg = l.2.2.1 := by rw [G.1.2.1 _ q3.1 q3.2, q4, q5]
      have C2 : zCh cN cF gof (upd hand (l.2.2.1).toNatClampNeg l.2.2.2.1) t := by
        refine zCh_g T G C q3 ⟨q7, q8⟩ (fun i i0 i1 => ?_) (fun i i0 i1 => ?_)
        · rw [gj, zup q1.1 i0]
        · rw [q4, tg i i0 i1, tr i i0 i1, q6]
      rw [← Option.some.inj h1, ← Option.some.inj h2]
      refine Or.inr ⟨⟨by show ¬ (1 : Int32) = 0; decide, by show ¬ (1 : Int32) = 0; decide⟩, C2, fun i i0 i1 i2 => ?_⟩
      show upd hand (l.2.2.1).toNatClampNeg l.2.2.2.1 (gof i.toNatClampNeg).toNatClampNeg = gfx (gof i.toNatClampNeg).toNatClampNeg
      rw [zup q1.1 (C i i0 i1).1.1, if_neg (fun z => i2 (by rw [z]; exact q2))]
      exact Dx i i0 i1 i2
  · rw [if_pos (by rw [zif1]; exact cl)] at h1 h2
    rw [← Option.some.inj h1, ← Option.some.inj h2]
    exact Or.inl ⟨rfl, rfl, rfl⟩
theorem zHN_up {cN cF gcl mHh : Int32} {gof gfx hand mH hand' mH' t : Nat → Int32} (H : zHN cN cF gcl mHh gof gfx hand mH) (C : zCh cN cF gof hand' t) (hm : ∀ i : Int32, 0 ≤ i → i < cN → mH' i.toNatClampNeg = t i.toNatClampNeg) (hx : ∀ i : Int32, 0 ≤ i → i < cN → ¬ gfx (gof i.toNatClampNeg).toNatClampNeg = (-1) → hand' (gof i.toNatClampNeg).toNatClampNeg = gfx (gof i.toNatClampNeg).toNatClampNeg) : zHN cN cF gcl mHh gof gfx hand' mH' := ⟨H.1, H.2.1, fun _ _ => ⟨zCh_c C hm, hx⟩⟩
set_option maxHeartbeats 8000000 in
theorem ztake {cF cc cN inp gc gfr gcl mHh mFn mWn mFa mFw mSc mTs mS1 mS2 mS3 mS4 uRd uAn uMn uBs uBp uFa uRs vRd vSt vPs vPr vTs vPa vCe vBg vBf vFa vRs : Int32} {nF nN stp mst prc al made amt op fx jn lets gof gfx gld rwd hand mF mN mCst mNF mNN mS mM mC mW mO m1 m2 mX mG mH mTr mFr mRf mSo mHc mRw mPf mPm rf uP uE uFp uFe uFm uCh vRw vCd vUn vPf vPt vNr : Nat → Int32} {rlo rhi mA mB mLe mGe mEr uRe vRe : Nat → Int64} {mWb : Int64} {nQP nQE nQ3 nQ4 nQ5 : Nat} {p1 : Int32} {x : Int32 × Int32 × Int32 × Int32 × Int32 × Int32 × Int32 × Int32 × Int32 × Int32 × (Nat → Int32) × (Nat → Int32) × Int32 × Int32 × (Nat → Int64) × (Nat → Int32) × (Nat → Int32) × (Nat → Int32) × (Nat → Int32) × (Nat → Int32) × Int32 × Int32 × Int32 × Int32 × Int32 × (Nat → Int32) × Nat × (Nat → Int32) × Nat × (Nat → Int32) × Nat × (Nat → Int32) × Nat × (Nat → Int32) × Nat × (Nat → Int32) × Int32 × Int32 × (Nat → Int64) × (Nat → Int32)} {y : Int32 × Int32 × Int32 × Int32 × Int32 × Int32 × Int32 × Int32 × Int32 × Int32 × Int32 × (Nat → Int32) × (Nat → Int32) × (Nat → Int32) × (Nat → Int64) × (Nat → Int64) × (Nat → Int64) × (Nat → Int32) × (Nat → Int32) × (Nat → Int32) × (Nat → Int32) × (Nat → Int32) × (Nat → Int32)} (T : zTN cF cc cN inp nF nN stp mst prc al made amt op fx jn lets mF mN mNF mNN mS mM mC mW mCst mO m1 m2 mX mG mA mB) (G : zGp cN gc gfr gcl gof gfx gld fx mG) (R : zRN cN (-1) 0 op made amt rwd rlo rhi) (H : zHN cN cF gcl mHh gof gfx hand mH) (F : zFC cF cc cN gc gfr gcl gof gfx stp mst prc al made amt op rlo rhi uRd uAn uMn uBs uBp uP nQP uE nQE) (K : zLC cF cc cN gc gcl gof gfx stp mst prc al made amt op rlo rhi vRd vSt vPr vTs vRw) (h1 : fn_X11_take p1 vRd vSt vPs vPr vTs vPa vCe vBg vBf cF cc cN gc gfr gcl stp vRw gfx vCd vFa vRs gof op made vRe amt rlo rhi mst al prc vUn vPf vPt hand vNr uRd uAn uMn uBs uBp nQP uP nQE uE nQ5 uFm nQ4 uFe nQ3 uFp uCh uFa uRs uRe rf = some x) (h2 : fn_X12_take p1 mFn mWn mWb mHh mFa mFw mSc mTs mS1 mS2 mS3 mS4 mN mG mX mFr mH mTr mCst m1 m2 mC mF mO mLe mA mB mGe mS mEr mM mW mHc mSo mRw mPf mPm mRf = some y) : x.1 = y.1 ∧ zHN cN cF gcl mHh gof gfx x.2.2.2.2.2.2.2.2.2.2.2.2.2.2.2.2.2.2.1 y.2.2.2.2.2.2.2.2.2.2.2.2.1 ∧ zFC cF cc cN gc gfr gcl gof gfx stp mst prc al made amt op rlo rhi x.2.2.2.2.2.2.2.2.2.2.2.2.2.2.2.2.2.2.2.2.1 x.2.2.2.2.2.2.2.2.2.2.2.2.2.2.2.2.2.2.2.2.2.1 x.2.2.2.2.2.2.2.2.2.2.2.2.2.2.2.2.2.2.2.2.2.2.1 x.2.2.2.2.2.2.2.2.2.2.2.2.2.2.2.2.2.2.2.2.2.2.2.1 x.2.2.2.2.2.2.2.2.2.2.2.2.2.2.2.2.2.2.2.2.2.2.2.2.1 x.2.2.2.2.2.2.2.2.2.2.2.2.2.2.2.2.2.2.2.2.2.2.2.2.2.1 x.2.2.2.2.2.2.2.2.2.2.2.2.2.2.2.2.2.2.2.2.2.2.2.2.2.2.1 x.2.2.2.2.2.2.2.2.2.2.2.2.2.2.2.2.2.2.2.2.2.2.2.2.2.2.2.1 x.2.2.2.2.2.2.2.2.2.2.2.2.2.2.2.2.2.2.2.2.2.2.2.2.2.2.2.2.1 ∧ zLC cF cc cN gc gcl gof gfx stp mst prc al made amt op rlo rhi x.2.2.2.2.2.2.2.1 x.2.2.2.2.2.2.2.2.1 x.2.1 x.2.2.1 x.2.2.2.2.2.2.2.2.2.2.1 ∧ (rf = mRf → x.2.2.2.2.2.2.2.2.2.2.2.2.2.2.2.2.2.2.2.2.2.2.2.2.2.2.2.2.2.2.2.2.2.2.2.2.2.2.2 = y.2.2.2.2.2.2.2.2.2.2.2.2.2.2.2.2.2.2.2.2.2.2) := by
  have hN := T.2.1
  have gr : ∀ i : Int32, 0 ≤ i → i < cN → 0 ≤ gof i.toNatClampNeg ∧ gof i.toNatClampNeg < gc := by
    intro i i0 i1
    obtain ⟨l1, l2, l3⟩ := T.2.2.2.2.2.2.2.2.1 i i0 i1
    have b1 := zRk_lt (G := mG) l1 (Int32.lt_of_le_of_lt l2 i1) hN.2.2 l3
    rw [← G.1.1, ← G.1.2.1 i i0 i1] at b1
    exact ⟨(zGofR hN.2.2 T.2.2.2.2.2.2.2.2 G ⟨i0, i1⟩).1, b1⟩
  obtain ⟨b, hb, hy⟩ := zTakeM hN h2
  clear h2
  unfold fn_X11_take at h1
  by_cases c0 : p1 = 0
  · rw [if_pos c0] at h1
    obtain ⟨a, ha, h1⟩ := zb_s h1
    rw [c0] at hb
    obtain ⟨f, z⟩ := zTake0 T G R H F ha hb
    rcases z with ⟨a0, b0, e⟩ | ⟨⟨a0, b0⟩, C, hx⟩
    · rw [if_pos a0] at h1
      obtain ⟨r, hr, h1⟩ := zb_s h1
      have er := zref (by decide) hr
      rcases hy with ⟨_, y1, y2, y3⟩ | ⟨y0, _⟩
      · rw [← Option.some.inj h1, er]
        exact ⟨y1.symm, by rw [y2]; show zHN cN cF gcl mHh gof gfx a.2.2.2.2.2.2.2.2.2.2.2.2.2.2.2.2.2.2.2.2 mH; rw [e]; exact H, f, K, fun q => by rw [y3, ← q]⟩
      · exact absurd b0 y0
    · rw [if_neg a0] at h1
      obtain ⟨w, hw, h1⟩ := zb_s h1
      rcases hy with ⟨y0, _⟩ | ⟨_, y1, y2, y3⟩
      · exact absurd y0 b0
      · rw [← Option.some.inj h1]
        exact ⟨zPriceEq T C hw y2, zHN_up H C y1 (fun i i0 i1 i2 => hx _ (gr i i0 i1).1 (gr i i0 i1).2 i2), f, K, fun q => by rw [y3, ← q]⟩
  · rw [if_neg c0] at h1
    obtain ⟨j, ej, h1⟩ := zj_g h1
    have no : ∀ s, j s = some x → s.1 = 0 → b.1 = 0 → s.2.2.2.2.2.2.2.2.2.2.2.2.1 = hand → zLC cF cc cN gc gcl gof gfx stp mst prc al made amt op rlo rhi s.2.2.2.2.2.2.2.1 s.2.2.2.2.2.2.2.2.1 s.2.1 s.2.2.1 s.2.2.2.2.2.2.2.2.2.2.2.2.2.2.2.2.2.2.1 → x.1 = y.1 ∧ zHN cN cF gcl mHh gof gfx x.2.2.2.2.2.2.2.2.2.2.2.2.2.2.2.2.2.2.1 y.2.2.2.2.2.2.2.2.2.2.2.2.1 ∧ zFC cF cc cN gc gfr gcl gof gfx stp mst prc al made amt op rlo rhi x.2.2.2.2.2.2.2.2.2.2.2.2.2.2.2.2.2.2.2.2.1 x.2.2.2.2.2.2.2.2.2.2.2.2.2.2.2.2.2.2.2.2.2.1 x.2.2.2.2.2.2.2.2.2.2.2.2.2.2.2.2.2.2.2.2.2.2.1 x.2.2.2.2.2.2.2.2.2.2.2.2.2.2.2.2.2.2.2.2.2.2.2.1 x.2.2.2.2.2.2.2.2.2.2.2.2.2.2.2.2.2.2.2.2.2.2.2.2.1 x.2.2.2.2.2.2.2.2.2.2.2.2.2.2.2.2.2.2.2.2.2.2.2.2.2.1 x.2.2.2.2.2.2.2.2.2.2.2.2.2.2.2.2.2.2.2.2.2.2.2.2.2.2.1 x.2.2.2.2.2.2.2.2.2.2.2.2.2.2.2.2.2.2.2.2.2.2.2.2.2.2.2.1 x.2.2.2.2.2.2.2.2.2.2.2.2.2.2.2.2.2.2.2.2.2.2.2.2.2.2.2.2.1 ∧ zLC cF cc cN gc gcl gof gfx stp mst prc al made amt op rlo rhi x.2.2.2.2.2.2.2.1 x.2.2.2.2.2.2.2.2.1 x.2.1 x.2.2.1 x.2.2.2.2.2.2.2.2.2.2.1 ∧ (rf = mRf → x.2.2.2.2.2.2.2.2.2.2.2.2.2.2.2.2.2.2.2.2.2.2.2.2.2.2.2.2.2.2.2.2.2.2.2.2.2.2.2 = y.2.2.2.2.2.2.2.2.2.2.2.2.2.2.2.2.2.2.2.2.2.2) := by
      intro s hj s0 b0 e k
      have hj := zj_s ej hj
      rw [if_pos s0] at hj
      obtain ⟨r, hr, hj⟩ := zb_s hj
      have er := zref (by decide) hr
      rcases hy with ⟨_, y1, y2, y3⟩ | ⟨y0, _⟩
      · rw [← Option.some.inj hj, er]
        exact ⟨y1.symm, by rw [y2]; show zHN cN cF gcl mHh gof gfx s.2.2.2.2.2.2.2.2.2.2.2.2.1 mH; rw [e]; exact H, F, k, fun q => by rw [y3, ← q]⟩
      · exact absurd b0 y0
    have yes : ∀ s, j s = some x → ¬ s.1 = 0 → ¬ b.1 = 0 → zCh cN cF gof s.2.2.2.2.2.2.2.2.2.2.2.2.1 b.2.2.2.2.2.2.2.2.2.2.2.2.1 → (∀ i : Int32, 0 ≤ i → i < cN → ¬ gfx (gof i.toNatClampNeg).toNatClampNeg = (-1) → s.2.2.2.2.2.2.2.2.2.2.2.2.1 (gof i.toNatClampNeg).toNatClampNeg = gfx (gof i.toNatClampNeg).toNatClampNeg) → zLC cF cc cN gc gcl gof gfx stp mst prc al made amt op rlo rhi s.2.2.2.2.2.2.2.1 s.2.2.2.2.2.2.2.2.1 s.2.1 s.2.2.1 s.2.2.2.2.2.2.2.2.2.2.2.2.2.2.2.2.2.2.1 → x.1 = y.1 ∧ zHN cN cF gcl mHh gof gfx x.2.2.2.2.2.2.2.2.2.2.2.2.2.2.2.2.2.2.1 y.2.2.2.2.2.2.2.2.2.2.2.2.1 ∧ zFC cF cc cN gc gfr gcl gof gfx stp mst prc al made amt op rlo rhi x.2.2.2.2.2.2.2.2.2.2.2.2.2.2.2.2.2.2.2.2.1 x.2.2.2.2.2.2.2.2.2.2.2.2.2.2.2.2.2.2.2.2.2.1 x.2.2.2.2.2.2.2.2.2.2.2.2.2.2.2.2.2.2.2.2.2.2.1 x.2.2.2.2.2.2.2.2.2.2.2.2.2.2.2.2.2.2.2.2.2.2.2.1 x.2.2.2.2.2.2.2.2.2.2.2.2.2.2.2.2.2.2.2.2.2.2.2.2.1 x.2.2.2.2.2.2.2.2.2.2.2.2.2.2.2.2.2.2.2.2.2.2.2.2.2.1 x.2.2.2.2.2.2.2.2.2.2.2.2.2.2.2.2.2.2.2.2.2.2.2.2.2.2.1 x.2.2.2.2.2.2.2.2.2.2.2.2.2.2.2.2.2.2.2.2.2.2.2.2.2.2.2.1 x.2.2.2.2.2.2.2.2.2.2.2.2.2.2.2.2.2.2.2.2.2.2.2.2.2.2.2.2.1 ∧ zLC cF cc cN gc gcl gof gfx stp mst prc al made amt op rlo rhi x.2.2.2.2.2.2.2.1 x.2.2.2.2.2.2.2.2.1 x.2.1 x.2.2.1 x.2.2.2.2.2.2.2.2.2.2.1 ∧ (rf = mRf → x.2.2.2.2.2.2.2.2.2.2.2.2.2.2.2.2.2.2.2.2.2.2.2.2.2.2.2.2.2.2.2.2.2.2.2.2.2.2.2 = y.2.2.2.2.2.2.2.2.2.2.2.2.2.2.2.2.2.2.2.2.2.2) := by
      intro s hj s0 b0 C hx k
      have hj := zj_s ej hj
      rw [if_neg s0] at hj
      obtain ⟨w, hw, hj⟩ := zb_s hj
      rcases hy with ⟨y0, _⟩ | ⟨_, y1, y2, y3⟩
      · exact absurd y0 b0
      · rw [← Option.some.inj hj]
        exact ⟨zPriceEq T C hw y2, zHN_up H C y1 hx, F, k, fun q => by rw [y3, ← q]⟩
    clear ej
    obtain ⟨i, ei, h1⟩ := zj_g h1
    by_cases c1 : p1 = 1
    · rw [if_pos c1] at h1
      obtain ⟨a, ha, h1⟩ := zb_s h1
      rw [c1] at hb
      obtain ⟨k, -⟩ := zGo hN.2.1 K ha
      rcases zTake1 T G R H K ha hb with ⟨a0, b0⟩ | ⟨⟨a0, b0⟩, C, hx⟩
      · rw [if_pos a0] at h1
        have h1 := zj_s ei h1
        rw [if_neg (show ¬ p1 = 2 by rw [c1]; decide)] at h1
        exact no _ h1 rfl b0 rfl k
      · rw [if_neg a0] at h1
        obtain ⟨h, hh, h1⟩ := zb_s h1
        have cp := zCopyC hh
        have C2 : zCh cN cF gof h b.2.2.2.2.2.2.2.2.2.2.2.2.1 := by
          intro i i0 i1
          obtain ⟨⟨d1, d2⟩, d3⟩ := C i i0 i1
          rw [cp _ d1 d2]
          exact ⟨⟨d1, d2⟩, d3⟩
        refine yes _ h1 (by show ¬ (1 : Int32) = 0; decide) b0 C2 (fun i i0 i1 i2 => ?_) k
        show h (gof i.toNatClampNeg).toNatClampNeg = gfx (gof i.toNatClampNeg).toNatClampNeg
        obtain ⟨⟨d1, d2⟩, -⟩ := C i i0 i1
        rw [cp _ d1 d2]
        exact hx _ (gr i i0 i1).1 (gr i i0 i1).2 i2
    · rw [if_neg c1] at h1
      have h1 := zj_s ei h1
      by_cases c2 : p1 = 2
      · rw [if_pos c2] at h1
        obtain ⟨a, ha, h1⟩ := zb_s h1
        rw [c2] at hb
        rcases zTake2 T G R H ha hb with ⟨a0, b0, e⟩ | ⟨⟨a0, b0⟩, C, hx⟩
        · exact no _ h1 a0 b0 e K
        · exact yes _ h1 a0 b0 C hx K
      · rw [if_neg c2] at h1
        unfold fn_X12_canTake at hb
        rw [if_neg c0, if_neg c1, if_neg c2] at hb
        exact no _ h1 rfl (by rw [← Option.some.inj hb]) rfl K
