/-! the least ERROR within a COST; what is kept of the search stays so -/
theorem z3264 {x : Int64} (h : 0 ≤ x.toInt ∧ x.toInt ≤ 1000000000) : x.toInt32.toInt64 = x := by
  apply Int64.toInt_inj.mp
  rw [Int32.toInt_toInt64, Int64.toInt_toInt32, Int.bmod_def]
  split <;> omega
theorem zErAt {p s a q : Int32} {n : Nat} {E : Nat → Int32} (hp : 0 ≤ p ∧ p < q) (hq : q ≤ 1024) (ha : a ≤ 14) (hs : 0 ≤ s ∧ s < a) (hn : q * a ≤ Int32.ofNat n) : ∀ x : Int32, fn_X1_errorAt p s a n E = some x → x = E (p * a + s).toNatClampNeg := by
  intro x h
  obtain ⟨z1, z2, -⟩ := zidx hp.1 hp.2 hq ha hs.1 hs.2
  unfold fn_X1_errorAt at h
  rw [if_neg (show ¬ p * a + s < 0 from Int32.not_lt.mpr z1), if_neg (show ¬ Int32.ofNat n ≤ p * a + s from Int32.not_le.mpr (Int32.lt_of_lt_of_le z2 hn))] at h
  obtain ⟨-, h⟩ := zg_s h
  exact (Option.some.inj h).symm
set_option maxHeartbeats 8000000 in
theorem zeq_least {cF cc cN inp gc gfr gcl mHh mFn mWn mFa mFw uRd uAn uMn uBs uBp uFa uRs : Int32} {nF nN stp mst prc al made amt op fx jn lets gof gfx gld rwd hand mF mN mCst mNF mNN mS mM mC mW mO m1 m2 mX mG mH mTr mFr uP uE uFp uFe uFm uCh : Nat → Int32} {rlo rhi mA mB mLe mGe mEr uRe : Nat → Int64} {mWb : Int64} {nQP nQE nQ3 nQ4 nQ5 : Nat} {p1 p2 : Int32} {x : Int64 × Int32 × Int32 × Int32 × Int32 × Int32 × (Nat → Int32) × Nat × (Nat → Int32) × Nat × (Nat → Int32) × Nat × (Nat → Int32) × Nat × (Nat → Int32) × Nat × (Nat → Int32) × Int32 × Int32 × (Nat → Int64)} {y : Int64 × Int32 × Int32 × Int32 × Int32 × (Nat → Int32) × (Nat → Int32) × (Nat → Int64) × (Nat → Int64) × (Nat → Int64)} (T : zTN cF cc cN inp nF nN stp mst prc al made amt op fx jn lets mF mN mNF mNN mS mM mC mW mCst mO m1 m2 mX mG mA mB) (G : zGp cN gc gfr gcl gof gfx gld fx mG) (R : zRN cN (-1) 0 op made amt rwd rlo rhi) (H : zHN cN cF gcl mHh gof gfx hand mH) (F : zFC cF cc cN gc gfr gcl gof gfx stp mst prc al made amt op rlo rhi uRd uAn uMn uBs uBp uP nQP uE nQE) (h1 : fn_X11_least p1 p2 cF cc cN al uRd uAn uMn uBs uBp gc gfr gcl nQP uP nQE uE nQ5 uFm nQ4 uFe nQ3 uFp gfx uCh uFa uRs gof stp op made uRe amt rlo rhi mst prc = some x) (h2 : fn_X12_least p1 p2 mFn mWn mWb mHh mFa mFw mN mW mG mX mFr mF mH mTr mCst m1 m2 mC mO mLe mA mB mGe mS mEr mM = some y) : x.1 = y.1 := by
  have hN := T.2.1
  have gf := zGfr T G
  unfold fn_X11_least at h1
  unfold fn_X12_least at h2
  rw [zIsAnsJ hN.2.2, zb_some] at h1
  obtain ⟨i, hi, h2⟩ := zb_s h2
  rw [zIsAnsM T hi] at h2
  by_cases ca : (0 ≤ p1 ∧ p1 < cN) ∧ ¬ al p1.toNatClampNeg = (-1)
  · rw [if_neg (by rw [zif1]; exact fun q => q ca)] at h1 h2
    obtain ⟨a, ha, h1⟩ := zb_s h1
    obtain ⟨e, he, h2⟩ := zb_s h2
    obtain ⟨-, ra⟩ := zSea T G F ha
    obtain ⟨re, e2, e3, e4⟩ := zCanS T G H he
    rcases ra with ⟨q, q2⟩ | ⟨q1, q2, q3⟩
    · rw [if_pos q] at h1
      rcases re with ⟨r1, _⟩ | ⟨_, r2, _⟩
      · rw [if_pos r1] at h2
        rw [← Option.some.inj h1, ← Option.some.inj h2]
      · exact absurd r2 q2
    · rw [if_neg (by rw [q1]; decide)] at h1
      obtain ⟨lw, hl, h1⟩ := zb_s h1
      rw [← Option.some.inj h1]
      show lw = y.1
      clear h1
      unfold fn_X1_leastWithin at hl
      obtain ⟨sl, hs, hl⟩ := zb_s hl
      rcases q3 with ⟨w, w2, _⟩ | ⟨g0, q, ok, pr, er, w1, w2, w3, w4, w5, w6⟩
      · rcases re with ⟨r1, _⟩ | ⟨_, _, r3⟩
        · rw [if_pos r1] at h2
          rw [← Option.some.inj h2]
          rw [w2] at hl
          obtain ⟨B, eB, hl⟩ := zl_g hl
          have hl := zl_s eB hl
          try dsimp only at hl
          rw [if_pos (show (0 : Int32) ≤ 0 by decide)] at hl
          exact (Option.some.inj hl).symm
        · exact absurd r3 w
      · rcases re with ⟨_, r2⟩ | ⟨r1, _, _⟩
        · exact absurd ⟨q2, g0⟩ r2
        · rw [if_neg (by rw [r1]; decide)] at h2
          obtain ⟨A, hA, h2⟩ := zb_s h2
          have cl : 0 < cN ∧ gcl = 0 := ⟨q2.1, g0⟩
          have eA : A = q := by
            rw [zAllC T.1.1 (by rw [e4]; exact gf.1) hA, e4]
            exact w1.symm
          rw [eA, e2] at h2
          have es : sl = zAn al p1.toNatClampNeg := zCountA ⟨ca.1.1, Int32.le_of_lt ca.1.2, hN.2.2⟩ hs
          have sb : 0 ≤ sl ∧ sl < a.2.2.1 := by
            rw [es, w3]
            exact ⟨(zct_b32 (b := fun k => decide (¬ al k = (-1))) ca.1.1 (Int32.le_trans (Int32.le_of_lt ca.1.2) hN.2.2)).1, zct_lt (b := fun k => decide (¬ al k = (-1))) ca.1.1 ca.1.2 hN.2.2 (decide_eq_true ca.2)⟩
          have a14 : a.2.2.1 ≤ 14 := by
            rw [w3]
            exact Int32.le_trans (zct_b32 (b := fun k => decide (¬ al k = (-1))) hN.2.1 hN.2.2).2 hN.2.2
          obtain ⟨K1, K2, -, K4⟩ := w2
          have key : y.1 = lw := by
            refine zl_ip4 (P := fun (o1 : Int64 × Int32 × Int32 × Int32 × Int32 × (Nat → Int32) × (Nat → Int32) × (Nat → Int64) × (Nat → Int64) × (Nat → Int64)) (o2 : Int64) => o1.1 = o2) (fun s t => (0 ≤ s.2.1 ∧ s.2.1 ≤ q) ∧ t.1 = s.1 ∧ t.2 = zOc ok s.2.1.toNatClampNeg) ?_ _ _ _ _ _ ?_ h2 ⟨_, hl⟩
            · intro s t k1 o1 o2 ⟨R1, R2, R3⟩ hb ho1 ho2
              obtain ⟨be, c, fa, fw, l1, g1, tr, em⟩ := s
              obtain ⟨le, p⟩ := t
              dsimp only at R1 R2 R3 ho1
              subst R2
              by_cases d : q ≤ c
              · rw [if_pos d] at ho1
                obtain ⟨m, ho2⟩ := zl_un ho2
                try dsimp only at ho2
                have ep : p = a.2.2.2.1 := by rw [R3, Int32.le_antisymm R1.2 d]; exact K2.symm
                rw [if_pos (show a.2.2.2.1 ≤ p by rw [ep]; exact Int32.le_refl _)] at ho2
                rw [← Option.some.inj ho1, ← Option.some.inj ho2]
              · rw [if_neg d] at ho1
                have cq : c < q := Int32.not_le.mp d
                have cb : (0 ≤ c ∧ c ≤ 1023) ∧ c ≤ 1200 ∧ (0 ≤ c + 1 ∧ c + 1 ≤ q) ∧ c ≤ 1024 := zN1k R1.1 cq w4.2
                obtain ⟨t, ht, ho1⟩ := zb_s ho1
                obtain ⟨w, hw, ho1⟩ := zb_s ho1
                have ty := K1 c R1.1 cq
                by_cases z : ok c.toNatClampNeg = 0
                · have nx : zOc ok c.toNatClampNeg = zOc ok (c + 1).toNatClampNeg := (zct_f (b := fun n => decide (¬ ok n = 0)) R1.1 cb.2.1 (fun v => (of_decide_eq_true v) z)).symm
                  rw [nx] at R3
                  by_cases f : p2 < w
                  · rw [if_pos f] at ho1
                    refine hb _ _ _ _ ?_ ho1 ho2
                    exact ⟨cb.2.2.1, rfl, R3⟩
                  · rw [if_neg f] at ho1
                    obtain ⟨v, hv, ho1⟩ := zb_s ho1
                    obtain ⟨p3, -, -⟩ := zTryPass T G R H cl cb.1 e3 ty ht hv
                    rw [if_pos (show v.1 = 0 from p3.trans z)] at ho1
                    refine hb _ _ _ _ ?_ ho1 ho2
                    exact ⟨cb.2.2.1, rfl, R3⟩
                · have ec := zTryCost T G H cl cb.1 e3 ty ht hw z
                  have nx : zOc ok c.toNatClampNeg + 1 = zOc ok (c + 1).toNatClampNeg := (zct_t (b := fun n => decide (¬ ok n = 0)) R1.1 cb.2.1 (decide_eq_true z)).symm
                  obtain ⟨g1, g2⟩ := K4 c R1.1 cq z
                  have pq : zOc ok c.toNatClampNeg < a.2.2.2.1 := by
                    rw [K2]
                    exact zct_lI (b := fun n => decide (¬ ok n = 0)) R1.1 cq w4.2 (decide_eq_true z)
                  have pb : 0 ≤ zOc ok c.toNatClampNeg ∧ zOc ok c.toNatClampNeg ≤ c := zct_bI (b := fun n => decide (¬ ok n = 0)) R1.1 cb.2.2.2
                  obtain ⟨m, ho2⟩ := zl_un ho2
                  try dsimp only at ho2
                  rw [if_neg (show ¬ a.2.2.2.1 ≤ p by rw [R3]; exact Int32.not_le.mpr pq)] at ho2
                  obtain ⟨-, ho2⟩ := zg_s ho2
                  rw [R3, nx, g1, ← ec] at ho2
                  by_cases f : p2 < w
                  · rw [if_pos f] at ho1 ho2
                    refine hb _ _ _ _ ?_ ho1 ⟨_, ho2⟩
                    exact ⟨cb.2.2.1, rfl, rfl⟩
                  · rw [if_neg f] at ho1 ho2
                    obtain ⟨v, hv, ho1⟩ := zb_s ho1
                    obtain ⟨p3, p4, p5⟩ := zTryPass T G R H cl cb.1 e3 ty ht hv
                    have ok1 : ok c.toNatClampNeg = 1 := p4.resolve_left z
                    obtain ⟨v1, v2, v3⟩ := p5 ok1 p1 ca.1.1 ca.1.2
                    rw [if_neg (show ¬ v.1 = 0 from fun u => z (p3.symm.trans u)), v1] at ho1
                    have ea : ∀ u : Int32, fn_X1_errorAt (zOc ok c.toNatClampNeg) sl a.2.2.1 a.2.2.2.2.2.2.2.2.2.1 a.2.2.2.2.2.2.2.2.1 = some u → u.toInt64 = er c.toNatClampNeg p1.toNatClampNeg := by
                      intro u hu
                      have := zErAt ⟨pb.1, Int32.lt_of_le_of_lt pb.2 cq⟩ w4.2 a14 sb w6 u hu
                      rw [this, es, g2 p1 ca.1.1 ca.1.2 ca.2]
                      exact z3264 ⟨v2, v3⟩
                    by_cases n : lg_cmp le (-1000000000000000) = 0
                    · rw [if_pos n] at ho1 ho2
                      obtain ⟨-, ho1⟩ := zg_s ho1
                      obtain ⟨u, hu, ho2⟩ := zb_s ho2
                      rw [ea u hu] at ho2
                      refine hb _ _ _ _ ?_ ho1 ⟨_, ho2⟩
                      exact ⟨cb.2.2.1, rfl, rfl⟩
                    · rw [if_neg n] at ho1 ho2
                      obtain ⟨-, ho1⟩ := zg_s ho1
                      rw [zLes, zb_some] at ho1
                      obtain ⟨u, hu, ho2⟩ := zb_s ho2
                      rw [ea u hu] at ho2
                      unfold zLs at ho1
                      by_cases lt : er c.toNatClampNeg p1.toNatClampNeg < le
                      · rw [if_pos lt] at ho1
                        rw [if_neg (show ¬ 0 ≤ lg_cmp (er c.toNatClampNeg p1.toNatClampNeg) le from fun k => absurd lt (Int64.not_lt.mpr ((lg_cmp_ge _ _).mp k)))] at ho2
                        obtain ⟨u2, hu2, ho2⟩ := zb_s ho2
                        rw [ea u2 hu2] at ho2
                        refine hb _ _ _ _ ?_ ho1 ⟨_, ho2⟩
                        exact ⟨cb.2.2.1, rfl, rfl⟩
                      · rw [if_neg lt] at ho1
                        rw [if_pos ((lg_cmp_ge _ _).mpr (Int64.not_lt.mp lt))] at ho2
                        refine hb _ _ _ _ ?_ ho1 ⟨_, ho2⟩
                        exact ⟨cb.2.2.1, rfl, rfl⟩
            · refine ⟨⟨Int32.le_refl 0, w4.1⟩, rfl, ?_⟩
              show (0 : Int32) = zOc ok (0 : Int32).toNatClampNeg
              rw [zn01.1]
              rfl
          exact key.symm
  · rw [if_pos (by rw [zif1]; exact ca)] at h1 h2
    rw [← Option.some.inj h1, ← Option.some.inj h2]
/-! what is kept, behind each call that may search -/
theorem zfc_cheapest {cF cc cN inp gc gfr gcl uRd uAn uMn uBs uBp uFa uRs : Int32} {nF nN stp mst prc al made amt op fx jn lets gof gfx gld mF mN mCst mNF mNN mS mM mC mW mO m1 m2 mX mG uP uE uFp uFe uFm uCh oth : Nat → Int32} {rlo rhi mA mB uRe : Nat → Int64} {nQP nQE nQ3 nQ4 nQ5 : Nat} {p1 : Int32} {x : Int32 × Int32 × Int32 × Int32 × Int32 × Int32 × (Nat → Int32) × Nat × (Nat → Int32) × Nat × (Nat → Int32) × Nat × (Nat → Int32) × Nat × (Nat → Int32) × Nat × (Nat → Int32) × Int32 × Int32 × (Nat → Int64) × (Nat → Int32)} (T : zTN cF cc cN inp nF nN stp mst prc al made amt op fx jn lets mF mN mNF mNN mS mM mC mW mCst mO m1 m2 mX mG mA mB) (G : zGp cN gc gfr gcl gof gfx gld fx mG) (F : zFC cF cc cN gc gfr gcl gof gfx stp mst prc al made amt op rlo rhi uRd uAn uMn uBs uBp uP nQP uE nQE) (h1 : fn_X11_cheapest p1 uRd uAn uMn uBs uBp cF cc cN gc gfr gcl al nQP uP nQE uE nQ5 uFm nQ4 uFe nQ3 uFp gfx uCh uFa uRs gof stp op made uRe amt rlo rhi mst prc oth = some x) : zFC cF cc cN gc gfr gcl gof gfx stp mst prc al made amt op rlo rhi x.2.1 x.2.2.1 x.2.2.2.1 x.2.2.2.2.1 x.2.2.2.2.2.1 x.2.2.2.2.2.2.1 x.2.2.2.2.2.2.2.1 x.2.2.2.2.2.2.2.2.1 x.2.2.2.2.2.2.2.2.2.1 := by
  unfold fn_X11_cheapest at h1
  obtain ⟨a, ha, h1⟩ := zb_s h1
  obtain ⟨f, -⟩ := zSea T G F ha
  by_cases z : a.1 = 0
  · rw [if_pos z] at h1; rw [← Option.some.inj h1]; exact f
  · rw [if_neg z] at h1
    by_cases w : a.2.2.2.2.1 = (-1)
    · rw [if_pos w] at h1; rw [← Option.some.inj h1]; exact f
    · rw [if_neg w] at h1
      by_cases v : p1 = (-1)
      · rw [if_pos v] at h1; rw [← Option.some.inj h1]; exact f
      · rw [if_neg v] at h1
        obtain ⟨r, -, h1⟩ := zb_s h1
        obtain ⟨n, -, h1⟩ := zb_s h1
        by_cases u : n = 0
        · rw [if_pos u] at h1; rw [← Option.some.inj h1]; exact f
        · rw [if_neg u] at h1
          obtain ⟨k, -, h1⟩ := zb_s h1
          rw [← Option.some.inj h1]; exact f
theorem zfc_passing {cF cc cN inp gc gfr gcl uRd uAn uMn uBs uBp uFa uRs : Int32} {nF nN stp mst prc al made amt op fx jn lets gof gfx gld mF mN mCst mNF mNN mS mM mC mW mO m1 m2 mX mG uP uE uFp uFe uFm uCh : Nat → Int32} {rlo rhi mA mB uRe : Nat → Int64} {nQP nQE nQ3 nQ4 nQ5 : Nat} {x : Int32 × Int32 × Int32 × Int32 × Int32 × Int32 × (Nat → Int32) × Nat × (Nat → Int32) × Nat × (Nat → Int32) × Nat × (Nat → Int32) × Nat × (Nat → Int32) × Nat × (Nat → Int32) × Int32 × Int32 × (Nat → Int64)} (T : zTN cF cc cN inp nF nN stp mst prc al made amt op fx jn lets mF mN mNF mNN mS mM mC mW mCst mO m1 m2 mX mG mA mB) (G : zGp cN gc gfr gcl gof gfx gld fx mG) (F : zFC cF cc cN gc gfr gcl gof gfx stp mst prc al made amt op rlo rhi uRd uAn uMn uBs uBp uP nQP uE nQE) (h1 : fn_X11_passing uRd uAn uMn uBs uBp cF cc cN gc gfr gcl al nQP uP nQE uE nQ5 uFm nQ4 uFe nQ3 uFp gfx uCh uFa uRs gof stp op made uRe amt rlo rhi mst prc = some x) : zFC cF cc cN gc gfr gcl gof gfx stp mst prc al made amt op rlo rhi x.2.1 x.2.2.1 x.2.2.2.1 x.2.2.2.2.1 x.2.2.2.2.2.1 x.2.2.2.2.2.2.1 x.2.2.2.2.2.2.2.1 x.2.2.2.2.2.2.2.2.1 x.2.2.2.2.2.2.2.2.2.1 := by
  unfold fn_X11_passing at h1
  obtain ⟨a, ha, h1⟩ := zb_s h1
  obtain ⟨f, -⟩ := zSea T G F ha
  by_cases z : a.1 = 0
  · rw [if_pos z] at h1; rw [← Option.some.inj h1]; exact f
  · rw [if_neg z] at h1; rw [← Option.some.inj h1]; exact f
theorem zfc_least {cF cc cN inp gc gfr gcl uRd uAn uMn uBs uBp uFa uRs : Int32} {nF nN stp mst prc al made amt op fx jn lets gof gfx gld mF mN mCst mNF mNN mS mM mC mW mO m1 m2 mX mG uP uE uFp uFe uFm uCh : Nat → Int32} {rlo rhi mA mB uRe : Nat → Int64} {nQP nQE nQ3 nQ4 nQ5 : Nat} {p1 p2 : Int32} {x : Int64 × Int32 × Int32 × Int32 × Int32 × Int32 × (Nat → Int32) × Nat × (Nat → Int32) × Nat × (Nat → Int32) × Nat × (Nat → Int32) × Nat × (Nat → Int32) × Nat × (Nat → Int32) × Int32 × Int32 × (Nat → Int64)} (T : zTN cF cc cN inp nF nN stp mst prc al made amt op fx jn lets mF mN mNF mNN mS mM mC mW mCst mO m1 m2 mX mG mA mB) (G : zGp cN gc gfr gcl gof gfx gld fx mG) (F : zFC cF cc cN gc gfr gcl gof gfx stp mst prc al made amt op rlo rhi uRd uAn uMn uBs uBp uP nQP uE nQE) (h1 : fn_X11_least p1 p2 cF cc cN al uRd uAn uMn uBs uBp gc gfr gcl nQP uP nQE uE nQ5 uFm nQ4 uFe nQ3 uFp gfx uCh uFa uRs gof stp op made uRe amt rlo rhi mst prc = some x) : zFC cF cc cN gc gfr gcl gof gfx stp mst prc al made amt op rlo rhi x.2.1 x.2.2.1 x.2.2.2.1 x.2.2.2.2.1 x.2.2.2.2.2.1 x.2.2.2.2.2.2.1 x.2.2.2.2.2.2.2.1 x.2.2.2.2.2.2.2.2.1 x.2.2.2.2.2.2.2.2.2.1 := by
  unfold fn_X11_least at h1
  obtain ⟨i, -, h1⟩ := zb_s h1
  by_cases c : i = 0
  · rw [if_pos c] at h1; rw [← Option.some.inj h1]; exact F
  · rw [if_neg c] at h1
    obtain ⟨a, ha, h1⟩ := zb_s h1
    obtain ⟨f, -⟩ := zSea T G F ha
    by_cases z : a.1 = 0
    · rw [if_pos z] at h1; rw [← Option.some.inj h1]; exact f
    · rw [if_neg z] at h1
      obtain ⟨l, -, h1⟩ := zb_s h1
      rw [← Option.some.inj h1]; exact f
set_option maxHeartbeats 4000000 in
theorem zfc_front {cF cc cN inp gc gfr gcl uRd uAn uMn uBs uBp uFo uFz uFa uRs : Int32} {nF nN stp mst prc al made amt op fx jn lets gof gfx gld mF mN mCst mNF mNN mS mM mC mW mO m1 m2 mX mG uP uE uFp uFe uFm uCh : Nat → Int32} {rlo rhi mA mB uRe : Nat → Int64} {nQP nQE nQ3 nQ4 nQ5 : Nat} {p1 p2 p3 : Int32} {x : Int64 × Int32 × Int32 × Int32 × Int32 × Int32 × Int32 × Int32 × (Nat → Int32) × Nat × (Nat → Int32) × Nat × (Nat → Int32) × Nat × (Nat → Int32) × Nat × (Nat → Int32) × Nat × (Nat → Int32) × Int32 × Int32 × (Nat → Int64)} (T : zTN cF cc cN inp nF nN stp mst prc al made amt op fx jn lets mF mN mNF mNN mS mM mC mW mCst mO m1 m2 mX mG mA mB) (G : zGp cN gc gfr gcl gof gfx gld fx mG) (F : zFC cF cc cN gc gfr gcl gof gfx stp mst prc al made amt op rlo rhi uRd uAn uMn uBs uBp uP nQP uE nQE) (h1 : fn_X11_front p1 p2 p3 cF cc cN al uRd uAn uMn uBs uBp uFo uFz gc gfr gcl nQP uP nQE uE nQ5 uFm nQ4 uFe nQ3 uFp gfx uCh uFa uRs gof stp op made uRe amt rlo rhi mst prc = some x) : zFC cF cc cN gc gfr gcl gof gfx stp mst prc al made amt op rlo rhi x.2.2.1 x.2.2.2.1 x.2.2.2.2.1 x.2.2.2.2.2.1 x.2.2.2.2.2.2.1 x.2.2.2.2.2.2.2.2.1 x.2.2.2.2.2.2.2.2.2.1 x.2.2.2.2.2.2.2.2.2.2.1 x.2.2.2.2.2.2.2.2.2.2.2.1 := by
  unfold fn_X11_front at h1
  obtain ⟨i, -, h1⟩ := zb_s h1
  by_cases c : i = 0
  · rw [if_pos c] at h1; rw [← Option.some.inj h1]; exact F
  · rw [if_neg c] at h1
    obtain ⟨a, ha, h1⟩ := zb_s h1
    obtain ⟨f, -⟩ := zSea T G F ha
    by_cases z : a.1 = 0
    · rw [if_pos z] at h1; rw [← Option.some.inj h1]; exact f
    · rw [if_neg z] at h1
      obtain ⟨d, -, h1⟩ := zb_s h1
      by_cases c1 : p2 = (-1)
      · rw [if_pos c1] at h1
        by_cases c2 : p3 = 0
        · rw [if_pos c2] at h1; rw [← Option.some.inj h1]; exact f
        · rw [if_neg c2] at h1; rw [← Option.some.inj h1]; exact f
      · rw [if_neg c1] at h1
        by_cases c2 : p2 < 0
        · rw [if_pos c2] at h1; rw [← Option.some.inj h1]; exact f
        · rw [if_neg c2] at h1
          by_cases c3 : p2 < d.1
          · rw [if_pos c3] at h1
            by_cases c4 : p3 = 0
            · rw [if_pos c4] at h1
              obtain ⟨-, h1⟩ := zg_s h1
              rw [← Option.some.inj h1]; exact f
            · rw [if_neg c4] at h1
              by_cases c5 : p3 = 1
              · rw [if_pos c5] at h1
                obtain ⟨-, h1⟩ := zg_s h1
                rw [← Option.some.inj h1]; exact f
              · rw [if_neg c5] at h1
                by_cases c6 : p3 = 2
                · rw [if_pos c6] at h1
                  obtain ⟨-, h1⟩ := zg_s h1
                  rw [← Option.some.inj h1]; exact f
                · rw [if_neg c6] at h1; rw [← Option.some.inj h1]; exact f
          · rw [if_neg c3] at h1; rw [← Option.some.inj h1]; exact f
