/-! BY HALVES: the first CHOICE, all FORMATS; what is kept of it -/
noncomputable def zHR (cN cF gc : Int32) (gof gfx : Nat → Int32) (x : Int32 × Int32 × Int32 × Int32 × Int32 × Int32 × (Nat → Int32) × (Nat → Int32) × Int32 × Int32 × (Nat → Int64) × (Nat → Int32) × (Nat → Int32) × (Nat → Int32)) (y : Int32 × Int32 × Int32 × Int32 × Int32 × Int32 × Int32 × (Nat → Int32) × (Nat → Int32) × (Nat → Int32) × (Nat → Int64) × (Nat → Int64) × (Nat → Int64) × (Nat → Int32) × (Nat → Int32) × (Nat → Int32) × (Nat → Int32)) : Prop := x.1 = y.1 ∧ (y.1 = 0 ∨ y.1 = 1) ∧ (y.1 = 1 → x.2.1 = y.2.2.2.2.2.1 ∧ x.2.2.1 = y.2.2.2.2.2.2.1 ∧ zCh cN cF gof x.2.2.2.2.2.2.1 y.2.2.2.2.2.2.2.2.2.2.2.2.2.1 ∧ ∀ g : Int32, 0 ≤ g → g < gc → ¬ gfx g.toNatClampNeg = (-1) → x.2.2.2.2.2.2.1 g.toNatClampNeg = gfx g.toNatClampNeg)
set_option maxHeartbeats 16000000 in
theorem zHalve {cF cc cN inp gc gfr gcl mHh mFa mFw mSc mTs vSt vPs vPr vTs vFa vRs : Int32} {nF nN stp mst prc al made amt op fx jn lets gof gfx gld rwd hand mF mN mCst mNF mNN mS mM mC mW mO m1 m2 mX mG mH mTr mFr mSo mHc mRw mPf mPm vRw vCd vUn vPf vPt : Nat → Int32} {rlo rhi mA mB mLe mGe mEr vRe : Nat → Int64} {mWb : Int64} {x : Int32 × Int32 × Int32 × Int32 × Int32 × Int32 × (Nat → Int32) × (Nat → Int32) × Int32 × Int32 × (Nat → Int64) × (Nat → Int32) × (Nat → Int32) × (Nat → Int32)} {y : Int32 × Int32 × Int32 × Int32 × Int32 × Int32 × Int32 × (Nat → Int32) × (Nat → Int32) × (Nat → Int32) × (Nat → Int64) × (Nat → Int64) × (Nat → Int64) × (Nat → Int32) × (Nat → Int32) × (Nat → Int32) × (Nat → Int32)} (T : zTN cF cc cN inp nF nN stp mst prc al made amt op fx jn lets mF mN mNF mNN mS mM mC mW mCst mO m1 m2 mX mG mA mB) (G : zGp cN gc gfr gcl gof gfx gld fx mG) (R : zRN cN (-1) 0 op made amt rwd rlo rhi) (H : zHN cN cF gcl mHh gof gfx hand mH) (cl : 0 < cN ∧ gcl = 0) (h1 : fn_X3_goByHalves 0 vSt vPs vPr vTs cF cc cN gc gcl stp vRw gfx vCd vFa vRs gof op made vRe amt rlo rhi mst al prc vUn vPf vPt = some x) (h2 : fn_X12_halve mWb mHh mFa mFw mSc mTs mN mG mX mFr mF mS mH mTr mHc mO m1 m2 mLe mA mB mGe mEr mM mW mSo mCst mC mRw mPf mPm = some y) : zHR cN cF gc gof gfx x y := by
  have hN := T.2.1
  have gb := zRk_b (G := mG) (p := cN) hN.2.1 hN.2.2
  rw [← G.1.1] at gb
  have gc14 : 0 ≤ gc ∧ gc ≤ 14 := ⟨gb.1, Int32.le_trans gb.2 hN.2.2⟩
  have gf := zGfr T G
  have cF0 : 0 < cF := T.2.2.2.2.1 cl.1
  have cF4 := T.1.2.2
  obtain ⟨C, Dx⟩ := H.2.2 cl.1 cl.2
  unfold fn_X3_goByHalves at h1
  unfold fn_X12_halve at h2
  rw [zHasC hN.2.1, zb_some, if_neg (by rw [zif1]; exact fun q => q cl), if_pos rfl] at h1
  obtain ⟨fr, hfr, h2⟩ := zb_s h2
  rw [zIsTh ⟨hN.1, hN.2.1⟩ H, zb_some, if_neg (by rw [zif1]; exact fun q => q cl)] at h2
  have lf : zFL cN fr.1 gfx mG fr.2 := zLaysFree T G hfr
  have ef : zFg gfx gc.toNatClampNeg = fr.1 := by rw [lf.1, gf.2]; exact G.2.symm
  have f14 : 0 ≤ fr.1 ∧ fr.1 ≤ 14 := by rw [lf.1, gf.2]; exact gf.1
  obtain ⟨fin, hfin, h1⟩ := zb_s h1
  obtain ⟨fi2, hfi2, h2⟩ := zb_s h2
  obtain ⟨efin, fin0, fin1⟩ := zFinest T cF0 hfin hfi2
  subst efin
  obtain ⟨r0, hr0, h1⟩ := zb_s h1
  have rr := zFillF gc14 hr0
  obtain ⟨k9, cd0, h1, hcd⟩ := zCopyK (c := 14) (so := fun _ => vp_nar .boolean 0) ⟨by decide, by decide⟩ h1
  try dsimp only at h1
  have hcd0 : ∀ i : Int32, 0 ≤ i → i < 14 → cd0 i.toNatClampNeg = 0 := fun i i0 i1 => (hcd i i0 i1).trans znar.2
  obtain ⟨rk, hrk, h1⟩ := zb_s h1
  obtain ⟨p, hp, h1⟩ := zb_s h1
  obtain ⟨th, hth, h2⟩ := zb_s h2
  have tr := zTrH hN hth
  rw [zn01.1, T.1.1] at h2
  clear hfr hfin hfi2 hr0 hth hcd
  have gr : ∀ i : Int32, 0 ≤ i → i < cN → (0 ≤ gof i.toNatClampNeg ∧ gof i.toNatClampNeg < 14) ∧ gof i.toNatClampNeg < gc := by
    intro i i0 i1
    obtain ⟨l1, l2, l3⟩ := T.2.2.2.2.2.2.2.2.1 i i0 i1
    have b1 := zRk_lt (G := mG) l1 (Int32.lt_of_le_of_lt l2 i1) hN.2.2 l3
    rw [← G.1.1, ← G.1.2.1 i i0 i1] at b1
    exact ⟨zGofR hN.2.2 T.2.2.2.2.2.2.2.2 G ⟨i0, i1⟩, b1⟩
  refine zl_ip (P := fun y : Int32 × Int32 × Int32 × Int32 × Int32 × Int32 × Int32 × (Nat → Int32) × (Nat → Int32) × (Nat → Int32) × (Nat → Int64) × (Nat → Int64) × (Nat → Int64) × (Nat → Int32) × (Nat → Int32) × (Nat → Int32) × (Nat → Int32) => zHR cN cF gc gof gfx x y) (fun s => (0 ≤ s.1 ∧ s.1 ≤ fr.1) ∧ (∀ i : Int32, 0 ≤ i → i < cN → (gfx (gof i.toNatClampNeg).toNatClampNeg = (-1) → zFg gfx (gof i.toNatClampNeg).toNatClampNeg < s.1 → s.2.1 i.toNatClampNeg = fin) ∧ (¬ gfx (gof i.toNatClampNeg).toNatClampNeg = (-1) → s.2.1 i.toNatClampNeg = mH i.toNatClampNeg)) ∧ (∀ k : Int32, 0 ≤ k → k < s.1 → s.2.2 k.toNatClampNeg = 0)) ?_ _ _ _ ⟨⟨Int32.le_refl 0, f14.1⟩, fun i i0 i1 => ⟨fun q w => ?_, fun _ => tr i i0 i1⟩, fun k k0 k1 => absurd k1 (Int32.not_lt.mpr k0)⟩ h2
  · intro s back o ⟨H1, H2, H3⟩ hb ho
    obtain ⟨k, t, hc⟩ := s
    dsimp only at H1 H2 H3 ho
    by_cases c : fr.1 ≤ k
    · rw [if_pos c] at ho
      clear hb
      rw [Int32.le_antisymm H1.2 c] at H2 H3
      have C0 : zCh cN cF gof r0 t := by
        intro i i0 i1
        obtain ⟨a1, a2⟩ := gr i i0 i1
        refine ⟨a1, ?_⟩
        rw [rr _ a1.1 a2]
        by_cases q : gfx (gof i.toNatClampNeg).toNatClampNeg = (-1)
        · have l : zFg gfx (gof i.toNatClampNeg).toNatClampNeg < fr.1 := by rw [← ef]; exact zct_lt (b := fun g => decide (gfx g = (-1))) a1.1 a2 gc14.2 (decide_eq_true q)
          rw [if_pos q, (H2 i i0 i1).1 q l]
          exact ⟨rfl, fin0, fin1⟩
        · obtain ⟨-, c2, c3, c4⟩ := C i i0 i1
          rw [if_neg q, (H2 i i0 i1).2 q, ← Dx i i0 i1 q, c2]
          exact ⟨rfl, c3, c4⟩
      obtain ⟨ps, hps, ho⟩ := zb_s ho
      have pe := zPassEq (wd := rwd) T (zRN_1 R) (Or.inl rfl) C0 hrk hps
      by_cases z : rk.1 = 0
      · rw [if_pos (show ps.1 = 0 from pe.1.symm.trans z)] at ho
        rw [← Option.some.inj ho]
        obtain ⟨B, eB, h1⟩ := zl_g h1
        have h1 := zl_s eB h1
        try dsimp only at h1
        rw [if_pos z] at h1
        obtain ⟨-, h1⟩ := zt_s h1
        rw [← Option.some.inj h1]
        exact ⟨z, Or.inl rfl, fun q => absurd (show (0 : Int32) = 1 from q) (by decide)⟩
      · have z1 : rk.1 = 1 := by
          rcases pe.2.2.2 with ⟨w, _⟩ | ⟨w, _⟩
          · exact w
          · exact absurd w z
        rw [if_neg (show ¬ ps.1 = 0 from fun q => z (pe.1.trans q))] at ho
        obtain ⟨kt, hkt, ho⟩ := zb_s ho
        obtain ⟨kt1, kt2⟩ := zKeepsT hN hkt
        have ep : p = kt.1 := zPriceEq T C0 hp kt1
        have S0 : zSF cN cF gc fin gof gfx r0 kt.2 cd0 hc := by
          refine ⟨zCh_c C0 kt2, fun g g0 g1 g2 => ⟨fun _ => ?_, fun _ => hcd0 g g0 (Int32.lt_of_lt_of_le g1 gc14.2)⟩, fun g g0 g1 g2 _ => ?_, fun g g0 g1 g2 => ?_⟩
          · refine H3 _ (zct_b32 (b := fun g => decide (gfx g = (-1))) g0 (Int32.le_trans (Int32.le_of_lt g1) gc14.2)).1 ?_
            rw [← ef]
            exact zct_lt (b := fun g => decide (gfx g = (-1))) g0 g1 gc14.2 (decide_eq_true g2)
          · rw [rr g g0 g1, if_pos g2]
          · rw [rr g g0 g1, if_neg g2]
        refine zl_ip2 (P := fun (x : Int32 × Int32 × Int32 × Int32 × Int32 × Int32 × (Nat → Int32) × (Nat → Int32) × Int32 × Int32 × (Nat → Int64) × (Nat → Int32) × (Nat → Int32) × (Nat → Int32)) (y : Int32 × Int32 × Int32 × Int32 × Int32 × Int32 × Int32 × (Nat → Int32) × (Nat → Int32) × (Nat → Int32) × (Nat → Int64) × (Nat → Int64) × (Nat → Int64) × (Nat → Int32) × (Nat → Int32) × (Nat → Int32) × (Nat → Int32)) => zHR cN cF gc gof gfx x y) (fun s t => (0 ≤ s.1 ∧ s.1 ≤ cF) ∧ s.1 = t.1 ∧ s.2.1 = t.2.2.2.1 ∧ s.2.2.1 = t.2.2.2.2.1 ∧ zSF cN cF gc fin gof gfx s.2.2.2.2.2.2.2.2.2.2.1 t.2.2.2.2.2.2.2.2.2.1 s.2.2.2.2.2.2.1 t.2.2.2.2.2.2.2.2.2.2.1) ?_ _ _ _ _ _ _ ?_ h1 ho
        rotate_left
        · exact ⟨⟨Int32.le_refl 0, Int32.le_of_lt cF0⟩, rfl, ep, rfl, S0⟩
        intro s t k1 k2 o1 o2 ⟨Q1, Q2, Q3, Q4, Q5⟩ hb2 q1 q2
        obtain ⟨f, pr, ts, pt0, fa, rs, cd, un, pf, pt, row, re⟩ := s
        obtain ⟨f', fa2, fw2, sc, ts2, le2, ge2, tr2, em2, so, hc2, wr2, pf2, pm2⟩ := t
        dsimp only at Q1 Q2 Q3 Q4 Q5 q1 q2
        subst Q2 Q3 Q4
        rw [if_neg z] at q1
        by_cases d : cF ≤ f
        · rw [if_pos d] at q1 q2
          obtain ⟨-, q1⟩ := zt_s q1
          rw [← Option.some.inj q1, ← Option.some.inj q2]
          exact ⟨z1, Or.inr rfl, fun _ => ⟨rfl, rfl, Q5.1, Q5.2.2.2⟩⟩
        · rw [if_neg d] at q1 q2
          have fb : f < cF ∧ 0 ≤ f + 1 ∧ f + 1 ≤ cF := ⟨Int32.not_le.mp d, (zN14 Q1.1 (Int32.not_le.mp d) (Int32.le_trans T.1.2.2 (by decide))).2.2.2.2⟩
          by_cases e : f = fin
          · rw [if_pos e] at q1 q2
            refine hb2 _ _ _ _ ?_ q1 q2
            exact ⟨fb.2, rfl, rfl, rfl, Q5⟩
          · rw [if_neg e] at q1 q2
            obtain ⟨hw, hhw, q1⟩ := zb_s q1
            obtain ⟨hy, hhy, q2⟩ := zb_s q2
            obtain ⟨y1, y2, y3⟩ := zHalveW T G R lf ⟨Q1.1, fb.1⟩ Q5 rfl rfl hhw hhy
            refine hb2 _ _ _ _ ?_ q1 q2
            exact ⟨fb.2, rfl, y1, y2, y3⟩
    · rw [if_neg c] at ho
      obtain ⟨-, ho⟩ := zg_s ho
      obtain ⟨t2, ht2, ho⟩ := zb_s ho
      have tg := zTrG hN ht2
      have kf : k < fr.1 := Int32.not_le.mp c
      have kb : (0 ≤ k ∧ k < 100000) ∧ 0 ≤ k + 1 ∧ k + 1 ≤ fr.1 := ⟨(zN14 H1.1 kf f14.2).1, (zN14 H1.1 kf f14.2).2.2.2.2⟩
      -- the k-th FREE GROUP
      obtain ⟨gn, n1, n2, n3⟩ := zct_sj (b := fun g => decide (gfx g = (-1))) gc.toNatClampNeg (by have := z14' gc14.1 gc14.2; omega) k H1.1 (by rw [show zct (fun g => decide (gfx g = (-1))) gc.toNatClampNeg = fr.1 from ef]; exact kf)
      obtain ⟨a1, a2, a3⟩ := zof gc14.1 n1
      have fg : gfx (Int32.ofNat gn).toNatClampNeg = (-1) := by rw [a3]; exact of_decide_eq_true n2
      have ek : zFg gfx (Int32.ofNat gn).toNatClampNeg = k := by rw [a3]; exact n3
      obtain ⟨j, j0, j1, j2, j3⟩ := zLead hN.2 G a1 a2
      have ej : fr.2 k.toNatClampNeg = j := by
        have l := lf.2 j j0 j1 j2 (by rw [j3]; exact fg)
        have e9 : zFg gfx (zRk mG j.toNatClampNeg).toNatClampNeg = zFk gfx mG j.toNatClampNeg := zFreeC gfx mG j.toNatClampNeg (z14' j0 (Int32.le_trans (Int32.le_of_lt j1) hN.2.2))
        rw [← e9, j3, ek] at l
        exact l
      have gj : gof j.toNatClampNeg = Int32.ofNat gn := by rw [G.1.2.1 j j0 j1, j2, j3]
      have same : ∀ i : Int32, 0 ≤ i → i < cN → (mG i.toNatClampNeg = fr.2 k.toNatClampNeg ↔ gof i.toNatClampNeg = Int32.ofNat gn) := by
        intro i i0 i1
        have e := zGp_eq hN.2.2 T.2.2.2.2.2.2.2.2 G ⟨i0, i1⟩ ⟨j0, j1⟩
        rw [gj, j2] at e
        rw [ej]
        exact e.symm
      refine hb _ _ ?_ ho
      refine ⟨kb.2, fun i i0 i1 => ⟨fun q w => ?_, fun q => ?_⟩, fun l l0 l1 => ?_⟩
      · show t2 i.toNatClampNeg = fin
        rw [tg i i0 i1]
        by_cases v : mG i.toNatClampNeg = fr.2 k.toNatClampNeg
        · rw [if_pos v]
        · rw [if_neg v]
          rcases zlt1 kb.1 w with u | u
          · obtain ⟨b1, b2⟩ := gr i i0 i1
            exact absurd ((same i i0 i1).mpr (zFg_ne gc14.2 ⟨b1.1, b2⟩ ⟨a1, a2⟩ q fg (u.trans ek.symm))) v
          · exact (H2 i i0 i1).1 q u
      · show t2 i.toNatClampNeg = mH i.toNatClampNeg
        rw [tg i i0 i1, if_neg (fun v => q (by rw [(same i i0 i1).mp v]; exact fg))]
        exact (H2 i i0 i1).2 q
      · show upd hc k.toNatClampNeg (vp_nar .boolean 0) l.toNatClampNeg = 0
        rw [zup H1.1 l0]
        rcases zlt1 kb.1 l1 with u | u
        · rw [if_pos u]; exact znar.2
        · rw [if_neg (fun v => by rw [v] at u; exact absurd u Int32.lt_irrefl)]; exact H3 l l0 u
  · exact absurd w (Int32.not_lt.mpr (zct_b32 (b := fun g => decide (gfx g = (-1))) (gr i i0 i1).1.1 (Int32.le_of_lt (gr i i0 i1).1.2)).1)
/-- what is kept of it, while the TASK stays: a run of the class's own -/
noncomputable def zLC (cF cc cN gc gcl : Int32) (gof gfx stp mst prc al made amt op : Nat → Int32) (rlo rhi : Nat → Int64) (rd st pr ts : Int32) (row : Nat → Int32) : Prop := rd = 0 ∨ ∃ (vSt vPs vPr vTs vFa vRs : Int32) (vRw vCd vUn vPf vPt : Nat → Int32) (vRe : Nat → Int64) (o : Int32 × Int32 × Int32 × Int32 × Int32 × Int32 × (Nat → Int32) × (Nat → Int32) × Int32 × Int32 × (Nat → Int64) × (Nat → Int32) × (Nat → Int32) × (Nat → Int32)), fn_X3_goByHalves 0 vSt vPs vPr vTs cF cc cN gc gcl stp vRw gfx vCd vFa vRs gof op made vRe amt rlo rhi mst al prc vUn vPf vPt = some o ∧ st = o.1 ∧ pr = o.2.1 ∧ ts = o.2.2.1 ∧ row = o.2.2.2.2.2.2.1
theorem zGoS {cF cc cN gc gcl vSt vPs vPr vTs vFa vRs : Int32} {stp mst prc al made amt op gof gfx vRw vCd vUn vPf vPt : Nat → Int32} {rlo rhi vRe : Nat → Int64} {x : Int32 × Int32 × Int32 × Int32 × Int32 × Int32 × (Nat → Int32) × (Nat → Int32) × Int32 × Int32 × (Nat → Int64) × (Nat → Int32) × (Nat → Int32) × (Nat → Int32)} (hN : 0 ≤ cN) (cl : 0 < cN ∧ gcl = 0) (h1 : fn_X3_goByHalves 0 vSt vPs vPr vTs cF cc cN gc gcl stp vRw gfx vCd vFa vRs gof op made vRe amt rlo rhi mst al prc vUn vPf vPt = some x) : x.2.2.2.2.1 = x.1 := by
  unfold fn_X3_goByHalves at h1
  rw [zHasC hN, zb_some, if_neg (by rw [zif1]; exact fun q => q cl), if_pos rfl] at h1
  obtain ⟨fin, -, h1⟩ := zb_s h1
  obtain ⟨r0, -, h1⟩ := zb_s h1
  obtain ⟨k9, cd0, h1, -⟩ := zCopyK (c := 14) (so := fun _ => vp_nar .boolean 0) ⟨by decide, by decide⟩ h1
  try dsimp only at h1
  obtain ⟨rk, -, h1⟩ := zb_s h1
  obtain ⟨p, -, h1⟩ := zb_s h1
  refine zl_ip (P := fun x : Int32 × Int32 × Int32 × Int32 × Int32 × Int32 × (Nat → Int32) × (Nat → Int32) × Int32 × Int32 × (Nat → Int64) × (Nat → Int32) × (Nat → Int32) × (Nat → Int32) => x.2.2.2.2.1 = x.1) (fun _ => True) ?_ _ _ _ trivial h1
  intro s back o _ hb ho
  by_cases z : rk.1 = 0
  · rw [if_pos z] at ho
    obtain ⟨-, ho⟩ := zt_s ho
    rw [← Option.some.inj ho]
  · rw [if_neg z] at ho
    by_cases d : cF ≤ s.1
    · rw [if_pos d] at ho
      obtain ⟨-, ho⟩ := zt_s ho
      rw [← Option.some.inj ho]
    · rw [if_neg d] at ho
      by_cases e : s.1 = fin
      · rw [if_pos e] at ho
        exact hb _ _ trivial ho
      · rw [if_neg e] at ho
        obtain ⟨w, -, ho⟩ := zb_s ho
        exact hb _ _ trivial ho
theorem zGo {cF cc cN gc gcl vRd vSt vPs vPr vTs vFa vRs : Int32} {stp mst prc al made amt op gof gfx vRw vCd vUn vPf vPt : Nat → Int32} {rlo rhi vRe : Nat → Int64} {x : Int32 × Int32 × Int32 × Int32 × Int32 × Int32 × (Nat → Int32) × (Nat → Int32) × Int32 × Int32 × (Nat → Int64) × (Nat → Int32) × (Nat → Int32) × (Nat → Int32)} (hN : 0 ≤ cN) (K : zLC cF cc cN gc gcl gof gfx stp mst prc al made amt op rlo rhi vRd vSt vPr vTs vRw) (h1 : fn_X3_goByHalves vRd vSt vPs vPr vTs cF cc cN gc gcl stp vRw gfx vCd vFa vRs gof op made vRe amt rlo rhi mst al prc vUn vPf vPt = some x) : zLC cF cc cN gc gcl gof gfx stp mst prc al made amt op rlo rhi x.2.2.2.1 x.2.2.2.2.1 x.2.1 x.2.2.1 x.2.2.2.2.2.2.1 ∧ (¬ (0 < cN ∧ gcl = 0) ∧ x.1 = 0 ∨ (0 < cN ∧ gcl = 0) ∧ zLC cF cc cN gc gcl gof gfx stp mst prc al made amt op rlo rhi 1 x.1 x.2.1 x.2.2.1 x.2.2.2.2.2.2.1) := by
  by_cases cl : 0 < cN ∧ gcl = 0
  · by_cases r : vRd = 0
    · rw [r] at h1
      have e := zGoS hN cl h1
      have k : ∀ v : Int32, zLC cF cc cN gc gcl gof gfx stp mst prc al made amt op rlo rhi v x.1 x.2.1 x.2.2.1 x.2.2.2.2.2.2.1 := fun v => Or.inr ⟨_, _, _, _, _, _, _, _, _, _, _, _, x, h1, rfl, rfl, rfl, rfl⟩
      exact ⟨by rw [e]; exact k _, Or.inr ⟨cl, k 1⟩⟩
    · have K1 : ∀ v : Int32, zLC cF cc cN gc gcl gof gfx stp mst prc al made amt op rlo rhi v vSt vPr vTs vRw := fun v => Or.inr (K.resolve_left r)
      unfold fn_X3_goByHalves at h1
      rw [zHasC hN, zb_some, if_neg (by rw [zif1]; exact fun q => q cl), if_neg r] at h1
      obtain ⟨-, h1⟩ := zt_s h1
      rw [← Option.some.inj h1]
      exact ⟨K1 _, Or.inr ⟨cl, K1 1⟩⟩
  · unfold fn_X3_goByHalves at h1
    rw [zHasC hN, zb_some, if_pos (by rw [zif1]; exact cl)] at h1
    rw [← Option.some.inj h1]
    exact ⟨K, Or.inl ⟨cl, rfl⟩⟩
/-- what is kept, against the reference's own -/
theorem zLC_eq {cF cc cN inp gc gfr gcl mHh mFa mFw mSc mTs : Int32} {nF nN stp mst prc al made amt op fx jn lets gof gfx gld rwd hand mF mN mCst mNF mNN mS mM mC mW mO m1 m2 mX mG mH mTr mFr mSo mHc mRw mPf mPm : Nat → Int32} {rlo rhi mA mB mLe mGe mEr : Nat → Int64} {mWb : Int64} {st pr ts : Int32} {row : Nat → Int32} {y : Int32 × Int32 × Int32 × Int32 × Int32 × Int32 × Int32 × (Nat → Int32) × (Nat → Int32) × (Nat → Int32) × (Nat → Int64) × (Nat → Int64) × (Nat → Int64) × (Nat → Int32) × (Nat → Int32) × (Nat → Int32) × (Nat → Int32)} (T : zTN cF cc cN inp nF nN stp mst prc al made amt op fx jn lets mF mN mNF mNN mS mM mC mW mCst mO m1 m2 mX mG mA mB) (G : zGp cN gc gfr gcl gof gfx gld fx mG) (R : zRN cN (-1) 0 op made amt rwd rlo rhi) (H : zHN cN cF gcl mHh gof gfx hand mH) (cl : 0 < cN ∧ gcl = 0) (K : zLC cF cc cN gc gcl gof gfx stp mst prc al made amt op rlo rhi 1 st pr ts row) (h2 : fn_X12_halve mWb mHh mFa mFw mSc mTs mN mG mX mFr mF mS mH mTr mHc mO m1 m2 mLe mA mB mGe mEr mM mW mSo mCst mC mRw mPf mPm = some y) : st = y.1 ∧ (y.1 = 0 ∨ y.1 = 1) ∧ (y.1 = 1 → pr = y.2.2.2.2.2.1 ∧ ts = y.2.2.2.2.2.2.1 ∧ zCh cN cF gof row y.2.2.2.2.2.2.2.2.2.2.2.2.2.1 ∧ ∀ g : Int32, 0 ≤ g → g < gc → ¬ gfx g.toNatClampNeg = (-1) → row g.toNatClampNeg = gfx g.toNatClampNeg) := by
  rcases K with K | ⟨a1, a2, a3, a4, a5, a6, b1, b2, b3, b4, b5, b6, o, ho, e1, e2, e3, e4⟩
  · exact absurd K (by decide)
  · obtain ⟨z1, z2, z3⟩ := zHalve T G R H cl ho h2
    rw [e1, e2, e3, e4]
    exact ⟨z1, z2, z3⟩
theorem zHalfNo {cF cc cN inp gcl mHh mFa mFw mSc mTs : Int32} {nF nN stp mst prc al made amt op fx jn lets gof gfx hand mF mN mCst mNF mNN mS mM mC mW mO m1 m2 mX mG mH mTr mFr mSo mHc mRw mPf mPm : Nat → Int32} {mA mB mLe mGe mEr : Nat → Int64} {mWb : Int64} {y : Int32 × Int32 × Int32 × Int32 × Int32 × Int32 × Int32 × (Nat → Int32) × (Nat → Int32) × (Nat → Int32) × (Nat → Int64) × (Nat → Int64) × (Nat → Int64) × (Nat → Int32) × (Nat → Int32) × (Nat → Int32) × (Nat → Int32)} (T : zTN cF cc cN inp nF nN stp mst prc al made amt op fx jn lets mF mN mNF mNN mS mM mC mW mCst mO m1 m2 mX mG mA mB) (H : zHN cN cF gcl mHh gof gfx hand mH) (cl : ¬ (0 < cN ∧ gcl = 0)) (h2 : fn_X12_halve mWb mHh mFa mFw mSc mTs mN mG mX mFr mF mS mH mTr mHc mO m1 m2 mLe mA mB mGe mEr mM mW mSo mCst mC mRw mPf mPm = some y) : y.1 = 0 := by
  have hN := T.2.1
  unfold fn_X12_halve at h2
  obtain ⟨fr, -, h2⟩ := zb_s h2
  rw [zIsTh ⟨hN.1, hN.2.1⟩ H, zb_some, if_pos (by rw [zif1]; exact cl)] at h2
  rw [← Option.some.inj h2]
set_option maxHeartbeats 4000000 in
theorem zeq_halves {cF cc cN inp gc gfr gcl mHh mFn mWn mFa mFw mSc mTs vRd vSt vPs vPr vTs vFa vRs : Int32} {nF nN stp mst prc al made amt op fx jn lets gof gfx gld rwd hand mF mN mCst mNF mNN mS mM mC mW mO m1 m2 mX mG mH mTr mFr mSo mHc mRw mPf mPm vRw vCd vUn vPf vPt : Nat → Int32} {rlo rhi mA mB mLe mGe mEr vRe : Nat → Int64} {mWb : Int64} {p1 : Int32} {x : Int32 × Int32 × Int32 × Int32 × Int32 × Int32 × (Nat → Int32) × (Nat → Int32) × Int32 × Int32 × (Nat → Int64) × (Nat → Int32) × (Nat → Int32) × (Nat → Int32)} {y : Int32 × Int32 × Int32 × Int32 × Int32 × Int32 × Int32 × (Nat → Int32) × (Nat → Int32) × (Nat → Int32) × (Nat → Int64) × (Nat → Int64) × (Nat → Int64) × (Nat → Int32) × (Nat → Int32) × (Nat → Int32) × (Nat → Int32)} (T : zTN cF cc cN inp nF nN stp mst prc al made amt op fx jn lets mF mN mNF mNN mS mM mC mW mCst mO m1 m2 mX mG mA mB) (G : zGp cN gc gfr gcl gof gfx gld fx mG) (R : zRN cN (-1) 0 op made amt rwd rlo rhi) (H : zHN cN cF gcl mHh gof gfx hand mH) (K : zLC cF cc cN gc gcl gof gfx stp mst prc al made amt op rlo rhi vRd vSt vPr vTs vRw) (h1 : fn_X11_halves p1 vRd vSt vPs vPr vTs cF cc cN gc gcl stp vRw gfx vCd vFa vRs gof op made vRe amt rlo rhi mst al prc vUn vPf vPt = some x) (h2 : fn_X12_halves p1 mFn mWn mWb mHh mFa mFw mSc mTs mN mG mX mFr mF mS mH mTr mHc mO m1 m2 mLe mA mB mGe mEr mM mW mSo mCst mC mRw mPf mPm = some y) : x.1 = y.1 := by
  have hN := T.2.1
  unfold fn_X11_halves at h1
  unfold fn_X12_halves at h2
  obtain ⟨a, ha, h1⟩ := zb_s h1
  obtain ⟨-, ga⟩ := zGo hN.2.1 K ha
  obtain ⟨j, ej, h2⟩ := zj_g h2
  have no : a.1 = 0 → x.1 = (-1) := by
    intro z
    rw [if_pos z] at h1
    rw [← Option.some.inj h1]
  have go : (p1 = (-1) ∨ p1 = (-2) ∨ (0 ≤ p1 ∧ p1 < cN)) → j () = some y → x.1 = y.1 := by
    intro hp hj
    have hj := zj_s ej hj
    obtain ⟨b, hb, hj⟩ := zb_s hj
    rcases ga with ⟨g1, g2⟩ | ⟨g1, g2⟩
    · rw [if_pos (zHalfNo T H g1 hb)] at hj
      rw [no g2, ← Option.some.inj hj]
    · obtain ⟨z1, z2, z3⟩ := zLC_eq T G R H g1 g2 hb
      rcases z2 with z | z
      · rw [if_pos z] at hj
        rw [no (z1.trans z), ← Option.some.inj hj]
      · obtain ⟨w1, w2, w3, -⟩ := z3 z
        have a0 : ¬ a.1 = 0 := by rw [z1, z]; decide
        rw [if_neg (show ¬ b.1 = 0 by rw [z]; decide)] at hj
        rw [if_neg a0] at h1
        by_cases e2 : p1 = (-2)
        · have e1 : ¬ p1 = (-1) := by rw [e2]; decide
          rw [if_pos e2] at h1
          rw [if_neg e1, if_pos e2] at hj
          rw [← Option.some.inj h1, ← Option.some.inj hj]
          exact w2
        · rw [if_neg e2] at h1
          by_cases e1 : p1 = (-1)
          · rw [if_pos e1] at h1 hj
            rw [← Option.some.inj h1, ← Option.some.inj hj]
            exact w1
          · have hi : 0 ≤ p1 ∧ p1 < cN := (hp.resolve_left e1).resolve_left e2
            rw [if_neg e1, zHasN, zb_some, if_neg (by rw [zif1]; exact fun q => q hi), zFmtOf hN.2.2 w3 hi, zb_some] at h1
            rw [if_neg e1, if_neg e2] at hj
            obtain ⟨-, hj⟩ := zg_s hj
            rw [← Option.some.inj h1, ← Option.some.inj hj]
  by_cases e1 : p1 = (-1)
  · rw [if_pos e1] at h2
    exact go (Or.inl e1) h2
  · rw [if_neg e1] at h2
    by_cases e2 : p1 = (-2)
    · rw [if_pos e2] at h2
      exact go (Or.inr (Or.inl e2)) h2
    · rw [if_neg e2, zIsNum (by rw [hN.1]; exact hN.2.1), zb_some, hN.1] at h2
      by_cases hi : 0 ≤ p1 ∧ p1 < cN
      · rw [if_neg (by rw [zif1]; exact fun q => q hi)] at h2
        exact go (Or.inr (Or.inr hi)) h2
      · rw [if_pos (by rw [zif1]; exact hi)] at h2
        rw [← Option.some.inj h2]
        by_cases a0 : a.1 = 0
        · exact no a0
        · rw [if_neg a0, if_neg e2, if_neg e1, zHasN, zb_some, if_pos (by rw [zif1]; exact hi)] at h1
          rw [← Option.some.inj h1]
theorem zlc_halves {cF cc cN gc gcl vRd vSt vPs vPr vTs vFa vRs : Int32} {stp mst prc al made amt op gof gfx vRw vCd vUn vPf vPt : Nat → Int32} {rlo rhi vRe : Nat → Int64} {p1 : Int32} {x : Int32 × Int32 × Int32 × Int32 × Int32 × Int32 × (Nat → Int32) × (Nat → Int32) × Int32 × Int32 × (Nat → Int64) × (Nat → Int32) × (Nat → Int32) × (Nat → Int32)} (hN : 0 ≤ cN) (K : zLC cF cc cN gc gcl gof gfx stp mst prc al made amt op rlo rhi vRd vSt vPr vTs vRw) (h1 : fn_X11_halves p1 vRd vSt vPs vPr vTs cF cc cN gc gcl stp vRw gfx vCd vFa vRs gof op made vRe amt rlo rhi mst al prc vUn vPf vPt = some x) : zLC cF cc cN gc gcl gof gfx stp mst prc al made amt op rlo rhi x.2.2.2.1 x.2.2.2.2.1 x.2.1 x.2.2.1 x.2.2.2.2.2.2.1 := by
  unfold fn_X11_halves at h1
  obtain ⟨a, ha, h1⟩ := zb_s h1
  obtain ⟨f, -⟩ := zGo hN K ha
  by_cases z : a.1 = 0
  · rw [if_pos z] at h1; rw [← Option.some.inj h1]; exact f
  · rw [if_neg z] at h1
    by_cases w : p1 = (-2)
    · rw [if_pos w] at h1; rw [← Option.some.inj h1]; exact f
    · rw [if_neg w] at h1
      by_cases v : p1 = (-1)
      · rw [if_pos v] at h1; rw [← Option.some.inj h1]; exact f
      · rw [if_neg v] at h1
        obtain ⟨n, -, h1⟩ := zb_s h1
        by_cases u : n = 0
        · rw [if_pos u] at h1; rw [← Option.some.inj h1]; exact f
        · rw [if_neg u] at h1
          obtain ⟨k, -, h1⟩ := zb_s h1
          rw [← Option.some.inj h1]; exact f
