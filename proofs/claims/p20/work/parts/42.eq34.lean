/-! SINGLE changes -/
noncomputable def zBG (cN gc cF : Int32) (gfx mG : Nat → Int32) (bg bf sg sf : Int32) : Prop := (bg = (-1) ∧ bf = (-1) ∧ sg = (-1) ∧ sf = (-1)) ∨ ((0 ≤ bg ∧ bg < gc) ∧ gfx bg.toNatClampNeg = (-1) ∧ (0 ≤ sg ∧ sg < cN) ∧ mG sg.toNatClampNeg = sg ∧ zRk mG sg.toNatClampNeg = bg ∧ sf = bf ∧ 0 ≤ bf ∧ bf < cF)
noncomputable def zSgl (cN gc cF : Int32) (gfx mG : Nat → Int32) (x : Int32 × Int32 × Int32 × Int32 × (Nat → Int32) × Int32 × Int32 × (Nat → Int64)) (y : Int32 × Int32 × Int32 × Int32 × Int32 × Int32 × Int32 × Int32 × (Nat → Int32) × (Nat → Int32) × (Nat → Int64) × (Nat → Int64) × (Nat → Int64)) : Prop := x.1 = y.2.2.2.2.1 ∧ x.2.1 = y.2.2.2.2.2.1 ∧ zBG cN gc cF gfx mG x.2.2.1 x.2.2.2.1 y.2.2.2.2.2.2.1 y.2.2.2.2.2.2.2.1
set_option maxHeartbeats 8000000 in
theorem zLook {cF cc cN inp gc gfr gcl mHh mFa mFw vFa vRs : Int32} {nF nN stp mst prc al made amt op fx jn lets gof gfx gld rwd hand mF mN mCst mNF mNN mS mM mC mW mO m1 m2 mX mG mH mTr mFr vNr : Nat → Int32} {rlo rhi mA mB mLe mGe mEr vRe : Nat → Int64} {mWb : Int64} {x : Int32 × Int32 × Int32 × Int32 × (Nat → Int32) × Int32 × Int32 × (Nat → Int64)} {y : Int32 × Int32 × Int32 × Int32 × Int32 × Int32 × Int32 × Int32 × (Nat → Int32) × (Nat → Int32) × (Nat → Int64) × (Nat → Int64) × (Nat → Int64)} (T : zTN cF cc cN inp nF nN stp mst prc al made amt op fx jn lets mF mN mNF mNN mS mM mC mW mCst mO m1 m2 mX mG mA mB) (G : zGp cN gc gfr gcl gof gfx gld fx mG) (R : zRN cN (-1) 0 op made amt rwd rlo rhi) (H : zHN cN cF gcl mHh gof gfx hand mH) (cl : 0 < cN ∧ gcl = 0) (h1 : fn_X3_lookAround hand vNr cF cc cN made gc gof prc gfx vFa vRs stp op vRe amt rlo rhi mst al = some x) (h2 : fn_X12_laysSingle mWb mFa mFw mN mG mX mFr mH mTr mCst m1 m2 mC mF mO mLe mA mB mGe mS mEr mM mW = some y) : zSgl cN gc cF gfx mG x y := by
  have hN := T.2.1
  have gf := zGfr T G
  obtain ⟨C, -⟩ := H.2.2 cl.1 cl.2
  have cF0 : 0 < cF := T.2.2.2.2.1 cl.1
  have cF4 := T.1.2.2
  unfold fn_X3_lookAround at h1
  unfold fn_X12_laysSingle at h2
  obtain ⟨nr, hnr, h1⟩ := zb_s h1
  obtain ⟨own, hown, h1⟩ := zb_s h1
  obtain ⟨fr, hfr, h2⟩ := zb_s h2
  obtain ⟨th, hth, h2⟩ := zb_s h2
  obtain ⟨ow2, how2, h2⟩ := zb_s h2
  have lf := zLaysFree T G hfr
  have eo : own = ow2 := zPriceEq T (zCh_c C (zTrH hN hth)) hown how2
  subst eo
  have cn := zCopyC hnr
  rw [zn01.1, T.1.1] at h2
  clear hnr hth hown how2
  have gb := zRk_b (G := mG) (p := cN) hN.2.1 hN.2.2
  rw [← G.1.1] at gb
  have gc14 : gc ≤ 14 := Int32.le_trans gb.2 hN.2.2
  have ef : zFg gfx gc.toNatClampNeg = fr.1 := by rw [lf.1, gf.2]; exact G.2.symm
  refine zl_ip4 (P := fun (o1 : Int32 × Int32 × Int32 × Int32 × (Nat → Int32) × Int32 × Int32 × (Nat → Int64)) (o2 : Int32 × Int32 × Int32 × Int32 × Int32 × Int32 × Int32 × Int32 × (Nat → Int32) × (Nat → Int32) × (Nat → Int64) × (Nat → Int64) × (Nat → Int64)) => zSgl cN gc cF gfx mG o1 o2) (fun s t => (0 ≤ s.2.1 ∧ s.2.1 ≤ gc) ∧ s.1 = t.1 ∧ t.2.1 = zFg gfx s.2.1.toNatClampNeg ∧ s.2.2.1 = t.2.2.2.2.1 ∧ s.2.2.2.1 = t.2.2.2.2.2.1 ∧ zBG cN gc cF gfx mG s.2.2.2.2.1 s.2.2.2.2.2.1 t.2.2.2.2.2.2.1 t.2.2.2.2.2.2.2.1 ∧ (∀ i : Int32, 0 ≤ i → i < 14 → s.2.2.2.2.2.2.2.2.1 i.toNatClampNeg = hand i.toNatClampNeg)) ?_ _ _ _ _ _ ?_ h1 ⟨_, h2⟩
  · intro s t k1 o1 o2 ⟨R1, R2, R3, R4, R5, R6, R7⟩ hb ho1 ho2
    obtain ⟨be, g, pa, ce, bg, bf, fa, rs, nr2, re⟩ := s
    obtain ⟨be2, k, fa2, fw2, pa2, ce2, sg, sf, l2, g2, tr2, em2⟩ := t
    dsimp only at R1 R2 R3 R4 R5 R6 R7 ho1
    subst R2 R4 R5
    by_cases d : gc ≤ g
    · rw [if_pos d] at ho1
      obtain ⟨m, ho2⟩ := zl_un ho2
      try dsimp only at ho2
      have eg := Int32.le_antisymm R1.2 d
      rw [if_pos (show fr.1 ≤ k by rw [R3, eg, ef]; exact Int32.le_refl _)] at ho2
      rw [← Option.some.inj ho1, ← Option.some.inj ho2]
      exact ⟨rfl, rfl, R6⟩
    · rw [if_neg d] at ho1
      have gg : g < gc := Int32.not_le.mp d
      have gi : g < 14 ∧ (0 ≤ g + 1 ∧ g + 1 ≤ gc) ∧ g ≤ 1200 := ⟨(zN14 R1.1 gg gc14).2.1, (zN14 R1.1 gg gc14).2.2.2.2, (zN14 R1.1 gg gc14).2.2.2.1⟩
      by_cases fg : gfx g.toNatClampNeg = (-1)
      · obtain ⟨j, j0, j1, j2, j3⟩ := zLead hN.2 G R1.1 gg
        have ek : fr.2 k.toNatClampNeg = j := by
          have := lf.2 j j0 j1 j2 (by rw [j3]; exact fg)
          have e9 : zFg gfx (zRk mG j.toNatClampNeg).toNatClampNeg = zFk gfx mG j.toNatClampNeg := zFreeC gfx mG j.toNatClampNeg (z14' j0 (Int32.le_trans (Int32.le_of_lt j1) hN.2.2))
          rw [← e9, j3, ← R3] at this
          exact this
        have kl : k < fr.1 := by
          rw [R3, ← ef]
          exact zct_lt (b := fun g => decide (gfx g = (-1))) R1.1 gg gc14 (decide_eq_true fg)
        have gj : gof j.toNatClampNeg = g := by rw [G.1.2.1 j j0 j1, j2, j3]
        obtain ⟨-, hj2, -⟩ := C j j0 j1
        rw [gj] at hj2
        obtain ⟨m, ho2⟩ := zl_un ho2
        try dsimp only at ho2
        rw [if_neg (show ¬ fr.1 ≤ k from Int32.not_le.mpr kl)] at ho2
        refine zl_ip2 (P := fun (o1 : Int32 × Int32 × Int32 × Int32 × (Nat → Int32) × Int32 × Int32 × (Nat → Int64)) (o2 : Int32 × Int32 × Int32 × Int32 × Int32 × Int32 × Int32 × Int32 × (Nat → Int32) × (Nat → Int32) × (Nat → Int64) × (Nat → Int64) × (Nat → Int64)) => zSgl cN gc cF gfx mG o1 o2) (fun s t => (0 ≤ s.2.1 ∧ s.2.1 ≤ cF) ∧ s.1 = t.1 ∧ s.2.1 = t.2.1 ∧ s.2.2.1 = t.2.2.2.2.1 ∧ s.2.2.2.1 = t.2.2.2.2.2.1 ∧ zBG cN gc cF gfx mG s.2.2.2.2.1 s.2.2.2.2.2.1 t.2.2.2.2.2.2.1 t.2.2.2.2.2.2.2.1 ∧ (∀ i : Int32, 0 ≤ i → i < 14 → ¬ i = g → s.2.2.2.2.2.2.2.2.1 i.toNatClampNeg = hand i.toNatClampNeg)) ?_ _ _ _ _ _ _ ?_ ho1 ho2
        · intro s t k3 k4 o3 o4 ⟨Q1, Q2, Q3, Q4, Q5, Q6, Q7⟩ hb2 hq1 hq2
          obtain ⟨be3, f, pa3, ce3, bg3, bf3, fa3, rs3, nr3, re3⟩ := s
          obtain ⟨be4, f4, fa4, fw4, pa4, ce4, sg4, sf4, l4, g4, tr4, em4⟩ := t
          dsimp only at Q1 Q2 Q3 Q4 Q5 Q6 Q7 hq1 hq2
          subst Q2 Q3 Q4 Q5
          obtain ⟨-, hq1⟩ := zg_s hq1
          obtain ⟨jj, ejj, hq1⟩ := zj_g hq1
          rw [if_pos fg] at hq1
          by_cases e : cF ≤ f
          · rw [if_pos e] at hq1 hq2
            have hq1 := zj_s ejj hq1
            obtain ⟨-, hq1⟩ := zg_s hq1
            have hq1 := zn_s hq1 rfl
            refine hb _ _ _ _ ?_ hq1 ⟨_, hq2⟩
            refine ⟨gi.2.1, rfl, ?_, rfl, rfl, Q6, fun i i0 i1 => ?_⟩
            · show k + 1 = zFg gfx (g + 1).toNatClampNeg
              rw [R3]
              exact (zct_t (b := fun g => decide (gfx g = (-1))) R1.1 gi.2.2 (decide_eq_true fg)).symm
            · show upd nr3 g.toNatClampNeg (hand g.toNatClampNeg) i.toNatClampNeg = hand i.toNatClampNeg
              rw [zup R1.1 i0]
              by_cases w : i = g
              · rw [if_pos w, w]
              · rw [if_neg w]; exact Q7 i i0 i1 w
          · rw [if_neg e] at hq1 hq2
            have hf : f < cF := Int32.not_le.mp e
            have fi : 0 ≤ f + 1 ∧ f + 1 ≤ cF := (zN14 Q1.1 hf (Int32.le_trans cF4 (by decide))).2.2.2.2
            obtain ⟨-, hq2⟩ := zg_s hq2
            obtain ⟨-, hq2⟩ := zg_s hq2
            rw [ek, ← hj2] at hq2
            have nq : ∀ i : Int32, 0 ≤ i → i < 14 → ¬ i = g → upd nr3 g.toNatClampNeg f i.toNatClampNeg = hand i.toNatClampNeg := by
              intro i i0 i1 w
              rw [zup R1.1 i0, if_neg w]
              exact Q7 i i0 i1 w
            by_cases u : f = hand g.toNatClampNeg
            · rw [if_pos u] at hq1
              rw [if_pos u.symm] at hq2
              refine hb2 _ _ _ _ ?_ hq1 hq2
              exact ⟨fi, rfl, rfl, rfl, rfl, Q6, nq⟩
            · rw [if_neg u] at hq1
              rw [if_neg (fun z => u z.symm)] at hq2
              obtain ⟨rk, hrk, hq1⟩ := zb_s hq1
              obtain ⟨t1, ht1, hq2⟩ := zb_s hq2
              obtain ⟨t2, ht2, hq2⟩ := zb_s hq2
              obtain ⟨ps, hps, hq2⟩ := zb_s hq2
              have tr1 := zTrH hN ht1
              have tr2 := zTrG hN ht2
              have C2 : zCh cN cF gof (upd nr3 g.toNatClampNeg f) t2 := by
                refine zCh_g T G C ⟨j0, j1⟩ ⟨Q1.1, hf⟩ (fun i i0 i1 => ?_) (fun i i0 i1 => ?_)
                · rw [gj]
                  by_cases w : i = g
                  · rw [if_pos w, zup R1.1 i0, if_pos w]
                  · rw [if_neg w]; exact nq i i0 i1 w
                · rw [j2, tr2 i i0 i1, tr1 i i0 i1]
              have pe := zPassEq (wd := rwd) T (zRN_1 R) (Or.inl rfl) C2 hrk hps
              by_cases v : rk.1 = 0
              · rw [if_pos v] at hq1
                rw [if_pos (show ps.1 = 0 from pe.1.symm.trans v)] at hq2
                refine hb2 _ _ _ _ ?_ hq1 hq2
                exact ⟨fi, rfl, rfl, rfl, rfl, Q6, nq⟩
              · rw [if_neg v] at hq1
                rw [if_neg (show ¬ ps.1 = 0 from fun z => v (pe.1.trans z))] at hq2
                obtain ⟨p5, hp5, hq1⟩ := zb_s hq1
                obtain ⟨p6, hp6, hq2⟩ := zb_s hq2
                have ep : p5 = p6 := zPriceEq T C2 hp5 hp6
                subst ep
                obtain ⟨ja, eja, hq1⟩ := zj_g hq1
                obtain ⟨jb, ejb, hq2⟩ := zj_g hq2
                have fin : ∀ v : Int32, ja v = some o3 → jb v = some o4 → zSgl cN gc cF gfx mG o3 o4 := by
                  intro v w1 w2
                  have w1 := zj_s eja w1
                  have w2 := zj_s ejb w2
                  by_cases lt : p5 < be3
                  · rw [if_neg (show ¬ be3 ≤ p5 from Int32.not_le.mpr lt)] at w1
                    rw [if_pos lt] at w2
                    obtain ⟨-, w2⟩ := zg_s w2
                    refine hb2 _ _ _ _ ?_ w1 w2
                    exact ⟨fi, rfl, rfl, rfl, rfl, Or.inr ⟨⟨R1.1, gg⟩, fg, ⟨j0, j1⟩, j2, j3, rfl, Q1.1, hf⟩, nq⟩
                  · rw [if_pos (Int32.not_lt.mp lt)] at w1
                    rw [if_neg lt] at w2
                    refine hb2 _ _ _ _ ?_ w1 w2
                    exact ⟨fi, rfl, rfl, rfl, rfl, Q6, nq⟩
                by_cases lo : own ≤ p5
                · rw [if_pos lo] at hq1 hq2
                  exact fin 0 hq1 hq2
                · rw [if_neg lo] at hq1 hq2
                  exact fin 1 hq1 hq2
        · exact ⟨⟨Int32.le_refl 0, Int32.le_of_lt cF0⟩, rfl, rfl, rfl, rfl, R6, fun i i0 i1 _ => R7 i i0 i1⟩
      · obtain ⟨B, eB, ho1⟩ := zl_g ho1
        have ho1 := zl_s eB ho1
        try dsimp only at ho1
        obtain ⟨-, ho1⟩ := zg_s ho1
        obtain ⟨jj, ejj, ho1⟩ := zj_g ho1
        rw [if_neg fg] at ho1
        have ho1 := zj_s ejj ho1
        obtain ⟨-, ho1⟩ := zg_s ho1
        have ho1 := zn_s ho1 rfl
        refine hb _ _ _ _ ?_ ho1 ho2
        refine ⟨gi.2.1, rfl, ?_, rfl, rfl, R6, fun i i0 i1 => ?_⟩
        · show k = zFg gfx (g + 1).toNatClampNeg
          rw [R3]
          exact (zct_f (b := fun g => decide (gfx g = (-1))) R1.1 gi.2.2 (fun q => fg (of_decide_eq_true q))).symm
        · show upd nr2 g.toNatClampNeg (hand g.toNatClampNeg) i.toNatClampNeg = hand i.toNatClampNeg
          rw [zup R1.1 i0]
          by_cases w : i = g
          · rw [if_pos w, w]
          · rw [if_neg w]; exact R7 i i0 i1
  · refine ⟨⟨Int32.le_refl 0, gb.1⟩, rfl, ?_, rfl, rfl, Or.inl ⟨rfl, rfl, rfl, rfl⟩, fun i i0 i1 => cn i i0 i1⟩
    show (0 : Int32) = zFg gfx (0 : Int32).toNatClampNeg
    rw [zn01.1]
    rfl
set_option maxHeartbeats 4000000 in
theorem zeq_single {cF cc cN inp gc gfr gcl mHh mFn mWn mFa mFw mS1 mS2 mS3 mS4 vPa vCe vBg vBf vFa vRs : Int32} {nF nN stp mst prc al made amt op fx jn lets gof gfx gld rwd hand mF mN mCst mNF mNN mS mM mC mW mO m1 m2 mX mG mH mTr mFr vNr : Nat → Int32} {rlo rhi mA mB mLe mGe mEr vRe : Nat → Int64} {mWb : Int64} {p1 : Int32} {x : Int32 × Int32 × Int32 × Int32 × Int32 × (Nat → Int32) × Int32 × Int32 × (Nat → Int64)} {y : Int32 × Int32 × Int32 × Int32 × Int32 × Int32 × Int32 × Int32 × Int32 × (Nat → Int32) × (Nat → Int32) × (Nat → Int64) × (Nat → Int64) × (Nat → Int64)} (T : zTN cF cc cN inp nF nN stp mst prc al made amt op fx jn lets mF mN mNF mNN mS mM mC mW mCst mO m1 m2 mX mG mA mB) (G : zGp cN gc gfr gcl gof gfx gld fx mG) (R : zRN cN (-1) 0 op made amt rwd rlo rhi) (H : zHN cN cF gcl mHh gof gfx hand mH) (h1 : fn_X11_single p1 cF cc cN gc gcl vPa vCe vBg vBf hand vNr made gof prc gfx vFa vRs stp op vRe amt rlo rhi mst al gld = some x) (h2 : fn_X12_single p1 mFn mWn mWb mHh mFa mFw mS1 mS2 mS3 mS4 mN mG mX mFr mH mTr mCst m1 m2 mC mF mO mLe mA mB mGe mS mEr mM mW = some y) : x.1 = y.1 := by
  have hN := T.2.1
  unfold fn_X11_single at h1
  unfold fn_X12_single at h2
  rw [zHasC hN.2.1, zb_some] at h1
  rw [zIsTh ⟨hN.1, hN.2.1⟩ H, zb_some] at h2
  by_cases c : 0 < cN ∧ gcl = 0
  · rw [if_neg (by rw [zif1]; exact fun q => q c)] at h1 h2
    obtain ⟨a, ha, h1⟩ := zb_s h1
    have hin : p1.toInt64 ≤ (3 : Int64) ↔ p1 ≤ 3 := by rw [show (3 : Int64) = (3 : Int32).toInt64 by decide +kernel, z64_le]
    simp only [zIsIn, zb_some, z64_ge0, hin] at h2
    by_cases d : 0 ≤ p1 ∧ p1 ≤ 3
    · rw [if_neg (by rw [zif1]; exact fun q => q d)] at h2
      obtain ⟨b, hb, h2⟩ := zb_s h2
      obtain ⟨s1, s2, s3⟩ := zLook T G R H c ha hb
      by_cases e0 : p1 = 0
      · rw [if_pos e0] at h1 h2
        rw [← Option.some.inj h1, ← Option.some.inj h2]
        exact s1
      · rw [if_neg e0] at h1 h2
        by_cases e1 : p1 = 1
        · rw [if_pos e1] at h1 h2
          rw [← Option.some.inj h1, ← Option.some.inj h2]
          exact s2
        · rw [if_neg e1] at h1 h2
          by_cases e2 : p1 = 2
          · rw [if_pos e2] at h1 h2
            obtain ⟨l, hl, h1⟩ := zb_s h1
            rw [← Option.some.inj h1, ← Option.some.inj h2]
            show l = b.2.2.2.2.2.2.1
            unfold fn_X2_leaderOf at hl
            rcases s3 with ⟨q1, _, q3, _⟩ | ⟨q1, _, q3, q4, q5, _⟩
            · rw [if_pos (show a.2.2.1 < 0 by rw [q1]; decide)] at hl
              rw [q3]
              exact (Option.some.inj hl).symm
            · rw [if_neg (show ¬ a.2.2.1 < 0 from Int32.not_lt.mpr q1.1), if_neg (show ¬ gc ≤ a.2.2.1 from Int32.not_le.mpr q1.2)] at hl
              obtain ⟨-, hl⟩ := zg_s hl
              have := (G.1.2.2.1 _ q3.1 q3.2 q4).1
              rw [q5] at this
              exact (Option.some.inj hl).symm.trans this
          · rw [if_neg e2] at h1 h2
            have e3 : p1 = 3 := zIs3 d e0 e1 e2
            rw [if_pos e3] at h1
            rw [← Option.some.inj h1, ← Option.some.inj h2]
            show a.2.2.2.1 = b.2.2.2.2.2.2.2.1
            rcases s3 with ⟨_, q2, _, q4⟩ | ⟨_, _, _, _, _, q6, _⟩
            · rw [q2, q4]
            · exact q6.symm
    · rw [if_pos (by rw [zif1]; exact d)] at h2
      have ne : ¬ p1 = 0 ∧ ¬ p1 = 1 ∧ ¬ p1 = 2 ∧ ¬ p1 = 3 := by
        refine ⟨fun q => d ?_, fun q => d ?_, fun q => d ?_, fun q => d ?_⟩ <;> rw [q] <;> decide
      rw [if_neg ne.1, if_neg ne.2.1, if_neg ne.2.2.1, if_neg ne.2.2.2] at h1
      rw [← Option.some.inj h1, ← Option.some.inj h2]
  · rw [if_pos (by rw [zif1]; exact c)] at h1 h2
    rw [← Option.some.inj h1, ← Option.some.inj h2]
