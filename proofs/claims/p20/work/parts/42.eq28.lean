/-! blame, certificate -/
theorem zCopyC {f g x : Nat → Int32} (h : fn_X11_copyChoice f g = some x) : ∀ i : Int32, 0 ≤ i → i < 14 → x i.toNatClampNeg = f i.toNatClampNeg := by
  unfold fn_X11_copyChoice at h
  refine zl_ip (P := fun x : Nat → Int32 => ∀ i : Int32, 0 ≤ i → i < 14 → x i.toNatClampNeg = f i.toNatClampNeg) (fun s => 0 ≤ s.1 ∧ s.1 ≤ 14 ∧ ∀ i : Int32, 0 ≤ i → i < s.1 → s.2 i.toNatClampNeg = f i.toNatClampNeg) ?_ _ _ _ ?_ h
  rotate_left
  · exact ⟨(show (0 : Int32) ≤ 0 by decide), (show (0 : Int32) ≤ 14 by decide), fun i i0 i1 => absurd i1 (by show ¬ i < 0; grind)⟩
  intro s back o ⟨H1, H2, H3⟩ hb ho
  obtain ⟨k, row⟩ := s
  dsimp only at H1 H2 H3 ho
  by_cases c : 14 ≤ k
  · rw [if_pos c] at ho
    rw [← Option.some.inj ho]
    exact fun i i0 i1 => H3 i i0 (by grind)
  · rw [if_neg c, if_neg c, if_neg c] at ho
    obtain ⟨-, ho⟩ := zg_s ho
    refine hb _ _ ?_ ho
    refine ⟨(show 0 ≤ k + 1 by grind), (show k + 1 ≤ 14 by grind), fun i i0 i1 => ?_⟩
    have i1 : i < k + 1 := i1
    show upd row k.toNatClampNeg (f k.toNatClampNeg) i.toNatClampNeg = f i.toNatClampNeg
    rw [zup H1 i0]
    by_cases q : i = k
    · rw [if_pos q, q]
    · rw [if_neg q]; exact H3 i i0 (by grind)
theorem zFinest {cF cc cN inp : Int32} {nF nN stp mst prc al made amt op fx jn lets mF mN mCst mNF mNN mS mM mC mW mO m1 m2 mX mG : Nat → Int32} {mA mB : Nat → Int64} {x y : Int32} (T : zTN cF cc cN inp nF nN stp mst prc al made amt op fx jn lets mF mN mNF mNN mS mM mC mW mCst mO m1 m2 mX mG mA mB) (h0 : 0 < cF) (h1 : fn_X9_finestFormat cF stp = some x) (h2 : fn_X12_finest mF mS = some y) : x = y ∧ 0 ≤ x ∧ x < cF := by
  obtain ⟨⟨f1, f2, f3⟩, hN, hC, hz, hp, hI, hf, hn, hg⟩ := T
  unfold fn_X9_finestFormat at h1
  unfold fn_X12_finest at h2
  rw [zn01.1, f1] at h2
  refine zl_ip2 (P := fun x y => x = y ∧ 0 ≤ x ∧ x < cF) (fun s t => t = s ∧ 0 ≤ s.1 ∧ s.1 < cF ∧ 1 ≤ s.2 ∧ s.2 ≤ 4) ?_ _ _ _ _ _ _ ?_ h1 h2
  rotate_left
  · exact ⟨rfl, (show (0 : Int32) ≤ 0 by decide), h0, (show (1 : Int32) ≤ 1 by decide), (show (1 : Int32) ≤ 4 by decide)⟩
  intro s t k1 k2 o1 o2 ⟨R1, R2, R3, R4, R5⟩ hb ho1 ho2
  subst R1
  obtain ⟨b, k⟩ := t
  dsimp only at R2 R3 R4 R5 ho1 ho2
  by_cases d : cF ≤ k
  · rw [if_pos d] at ho1 ho2
    rw [← Option.some.inj ho1, ← Option.some.inj ho2]
    exact ⟨rfl, R2, R3⟩
  · rw [if_neg d] at ho1 ho2
    obtain ⟨-, ho1⟩ := zg_s ho1
    obtain ⟨-, ho1⟩ := zg_s ho1
    obtain ⟨-, ho2⟩ := zg_s ho2
    obtain ⟨-, ho2⟩ := zg_s ho2
    rw [← (hf b R2 R3).2.1, ← (hf k (by grind) (by grind)).2.1] at ho2
    by_cases e : stp b.toNatClampNeg ≤ stp k.toNatClampNeg
    · rw [if_pos e] at ho1 ho2
      refine hb _ _ _ _ ?_ ho1 ho2
      exact ⟨rfl, R2, R3, (show 1 ≤ k + 1 by grind), (show k + 1 ≤ 4 by grind)⟩
    · rw [if_neg e] at ho1 ho2
      refine hb _ _ _ _ ?_ ho1 ho2
      exact ⟨rfl, (show 0 ≤ k by grind), (show k < cF by grind), (show 1 ≤ k + 1 by grind), (show k + 1 ≤ 4 by grind)⟩
/-- one GROUP in another FORMAT, in both -/
theorem zCh_g {cF cc cN inp gc gfr gcl : Int32} {nF nN stp mst prc al made amt op fx jn lets gof gfx gld mF mN mCst mNF mNN mS mM mC mW mO m1 m2 mX mG : Nat → Int32} {mA mB : Nat → Int64} {p f : Int32} {ch ch' t t' : Nat → Int32} (T : zTN cF cc cN inp nF nN stp mst prc al made amt op fx jn lets mF mN mNF mNN mS mM mC mW mCst mO m1 m2 mX mG mA mB) (G : zGp cN gc gfr gcl gof gfx gld fx mG) (C : zCh cN cF gof ch t) (hp : 0 ≤ p ∧ p < cN) (hf : 0 ≤ f ∧ f < cF) (h1 : ∀ i : Int32, 0 ≤ i → i < 14 → ch' i.toNatClampNeg = if i = gof p.toNatClampNeg then f else ch i.toNatClampNeg) (h2 : ∀ i : Int32, 0 ≤ i → i < cN → t' i.toNatClampNeg = if mG i.toNatClampNeg = mG p.toNatClampNeg then f else t i.toNatClampNeg) : zCh cN cF gof ch' t' := by
  obtain ⟨hF, ⟨n1, n2, n3⟩, hC, hz, hp0, hI, hf0, hn, hg⟩ := T
  intro i i0 i1
  obtain ⟨⟨a1, a2⟩, a3, a4, a5⟩ := C i i0 i1
  have eq := zGp_eq n3 hg G ⟨i0, i1⟩ hp
  rw [h1 _ a1 a2, h2 i i0 i1]
  by_cases q : gof i.toNatClampNeg = gof p.toNatClampNeg
  · rw [if_pos q, if_pos (eq.mp q)]
    exact ⟨⟨a1, a2⟩, rfl, hf.1, hf.2⟩
  · rw [if_neg q, if_neg (fun w => q (eq.mpr w))]
    exact ⟨⟨a1, a2⟩, a3, a4, a5⟩
set_option maxHeartbeats 4000000 in
theorem zeq_blame {cF cc cN inp gc gfr gcl mHh mWn mFa mFw : Int32} {nF nN stp mst prc al made amt op fx jn lets gof gfx gld rwd hand mF mN mCst mNF mNN mS mM mC mW mO m1 m2 mX mG mH mTr : Nat → Int32} {rlo rhi mA mB mLe mGe mEr : Nat → Int64} {mWb : Int64} {p1 p2 fa rs fa2 rs2 : Int32} {oth : Nat → Int32} {er0 er2 : Nat → Int64} {x : Int64 × Int32 × Int32 × (Nat → Int64) × (Nat → Int32) × Int32 × Int32 × (Nat → Int64)} {y : Int64 × Int32 × Int32 × Int32 × (Nat → Int32) × (Nat → Int64) × (Nat → Int64) × (Nat → Int64)} (T : zTN cF cc cN inp nF nN stp mst prc al made amt op fx jn lets mF mN mNF mNN mS mM mC mW mCst mO m1 m2 mX mG mA mB) (G : zGp cN gc gfr gcl gof gfx gld fx mG) (R : zRN cN (-1) 0 op made amt rwd rlo rhi) (H : zHN cN cF gcl mHh gof gfx hand mH) (h1 : fn_X11_blame p1 p2 cF cN al gc gcl gof gfx fa rs hand stp op made er0 amt rlo rhi mst oth fa2 rs2 er2 = some x) (h2 : fn_X12_blame p1 p2 mWn mWb mHh mFa mFw mN mW mG mX mH mTr mO m1 m2 mLe mA mB mGe mS mEr mM mF = some y) : x.1 = y.1 := by
  have hN := T.2.1
  have T0 := T
  unfold fn_X11_blame at h1
  unfold fn_X12_blame at h2
  rw [zIsAnsJ hN.2.2, zb_some] at h1
  obtain ⟨w, hw, h2⟩ := zb_s h2
  rw [zIsAnsM T hw, zIsNum (by rw [hN.1]; exact hN.2.1), zb_some, hN.1] at h2
  by_cases d : (0 ≤ p1 ∧ p1 < cN) ∧ ¬ al p1.toNatClampNeg = (-1)
  · rw [if_neg (show ¬ (if (0 ≤ p1 ∧ p1 < cN) ∧ ¬ al p1.toNatClampNeg = (-1) then (1 : Int32) else 0) = 0 by rw [zif1]; exact fun q => q d)] at h1 h2
    obtain ⟨v, hv, h1⟩ := zb_s h1
    by_cases e : 0 ≤ p2 ∧ p2 < cN
    · rw [if_neg (show ¬ (if 0 ≤ p2 ∧ p2 < cN then (1 : Int32) else 0) = 0 by rw [zif1]; exact fun q => q e)] at h2
      obtain ⟨-, h2⟩ := zg_s h2
      obtain ⟨u, hu, h2⟩ := zb_s h2
      rcases zFrM T0 G e hu with ⟨u1, u2⟩ | ⟨u1, u2⟩
      · rcases zFrJ T0 G hv with ⟨v1, _, _⟩ | ⟨_, v2⟩
        · rw [if_neg (by rw [v1]; decide)] at h1
          rw [if_neg (by rw [u1]; decide)] at h2
          obtain ⟨a, ha, h1⟩ := zb_s h1
          obtain ⟨b, hb, h2⟩ := zb_s h2
          have wn : b.2.1 = (-1) := by
            unfold fn_X12_handPasses at hb
            by_cases z1 : mHh = 0
            · rw [if_pos z1] at hb; rw [← Option.some.inj hb]
            · rw [if_neg z1] at hb
              by_cases z2 : mN (0 : Int32).toNatClampNeg = 0
              · rw [if_pos z2] at hb; rw [← Option.some.inj hb]
              · rw [if_neg z2] at hb
                obtain ⟨_, _, hb⟩ := zb_s hb
                obtain ⟨_, _, hb⟩ := zb_s hb
                rw [← Option.some.inj hb]
          rcases zHandP T R H ha hb with ⟨_, z1, z2⟩ | ⟨c, ⟨e1, e2, e3, e4⟩, tr⟩
          · rw [if_pos z1] at h1
            rw [if_pos z2] at h2
            rw [← Option.some.inj h1, ← Option.some.inj h2]
          · dsimp only at e1 e2 e3
            rcases e4 with ⟨w1, _, _, w2⟩ | ⟨w1, _⟩
            · rw [if_neg (by rw [w1]; decide)] at h1
              rw [if_neg (by rw [← e1, w1]; decide)] at h2
              obtain ⟨cp, hcp, h1⟩ := zb_s h1
              obtain ⟨-, h1⟩ := zg_s h1
              obtain ⟨fi, hfi, h1⟩ := zb_s h1
              obtain ⟨-, h1⟩ := zg_s h1
              obtain ⟨rr, hrr, h1⟩ := zb_s h1
              obtain ⟨-, h2⟩ := zg_s h2
              obtain ⟨fm, hfm, h2⟩ := zb_s h2
              obtain ⟨tg, htg, h2⟩ := zb_s h2
              obtain ⟨pp, hpp, h2⟩ := zb_s h2
              have cF0 : 0 < cF := T0.2.2.2.2.1 c.1
              obtain ⟨q1, q2, q3⟩ := zFinest T0 cF0 hfi hfm
              rw [← q1] at htg
              obtain ⟨C, -⟩ := H.2.2 c.1 c.2
              have cc := zCopyC hcp
              obtain ⟨⟨g1, g2⟩, -⟩ := C p2 e.1 e.2
              have C2 := zCh_g T0 G (zCh_c C tr) e ⟨q2, q3⟩ (ch' := upd cp (gof p2.toNatClampNeg).toNatClampNeg fi) (fun i i0 i1 => by rw [zup g1 i0, cc i i0 i1]) (zTrG hN htg)
              rw [wn] at hpp
              obtain ⟨y1, y2, y3, y4⟩ := zPassEq (wd := rwd) T0 (zRN_1 R) (Or.inl rfl) C2 hrr hpp
              rcases y4 with ⟨k1, _, _, k2⟩ | ⟨k1, _⟩
              · rw [if_neg (by rw [k1]; decide)] at h1
                rw [if_neg (by rw [← y1, k1]; decide)] at h2
                obtain ⟨-, h1⟩ := zg_s h1
                rw [← Option.some.inj h1, ← Option.some.inj h2]
                show a.2.2.2 p1.toNatClampNeg - rr.2.2.2 p1.toNatClampNeg = _
                have s1 := (w2 p1 d.1.1 d.1.2).1
                have s2 := (k2 p1 d.1.1 d.1.2).1
                dsimp only at s1 s2
                rw [s1, s2]
              · rw [if_pos k1] at h1
                rw [if_pos (y1.symm.trans k1)] at h2
                rw [← Option.some.inj h1, ← Option.some.inj h2]
            · rw [if_pos w1] at h1
              rw [if_pos (e1.symm.trans w1)] at h2
              rw [← Option.some.inj h1, ← Option.some.inj h2]
        · exact absurd ⟨e, u2⟩ v2
      · rcases zFrJ T0 G hv with ⟨_, _, v2⟩ | ⟨v1, _⟩
        · exact absurd v2 u2
        · rw [if_pos v1] at h1
          rw [if_pos u1] at h2
          rw [← Option.some.inj h1, ← Option.some.inj h2]
    · rw [if_pos (show (if 0 ≤ p2 ∧ p2 < cN then (1 : Int32) else 0) = 0 by rw [zif1]; exact e)] at h2
      rcases zFrJ T0 G hv with ⟨_, v2, _⟩ | ⟨v1, _⟩
      · exact absurd v2 e
      · rw [if_pos v1] at h1
        rw [← Option.some.inj h1, ← Option.some.inj h2]
  · rw [if_pos (show (if (0 ≤ p1 ∧ p1 < cN) ∧ ¬ al p1.toNatClampNeg = (-1) then (1 : Int32) else 0) = 0 by rw [zif1]; exact d)] at h1 h2
    rw [← Option.some.inj h1, ← Option.some.inj h2]
set_option maxHeartbeats 4000000 in
theorem zeq_certificate {cF cc cN inp gcl mHh mFa mFw : Int32} {nF nN stp mst prc al made amt op fx jn lets gof gfx rwd hand mF mN mCst mNF mNN mS mM mC mW mO m1 m2 mX mG mH mTr : Nat → Int32} {rlo rhi mA mB mLe mGe mEr : Nat → Int64} {mWb : Int64} {p1 fa rs : Int32} {er0 : Nat → Int64} {x : Int32 × Int32 × Int32 × (Nat → Int64)} {y : Int32 × Int32 × Int32 × Int32 × (Nat → Int32) × (Nat → Int64) × (Nat → Int64) × (Nat → Int64)} (T : zTN cF cc cN inp nF nN stp mst prc al made amt op fx jn lets mF mN mNF mNN mS mM mC mW mCst mO m1 m2 mX mG mA mB) (R : zRN cN (-1) 0 op made amt rwd rlo rhi) (H : zHN cN cF gcl mHh gof gfx hand mH) (h1 : fn_X11_certificate p1 cF cN gcl fa rs gof hand stp op made er0 amt rlo rhi mst al = some x) (h2 : fn_X12_certificate p1 mWb mHh mFa mFw mN mH mTr mO m1 m2 mLe mA mB mGe mS mEr mM mW = some y) : x.1 = y.1 := by
  have hN := T.2.1
  unfold fn_X11_certificate at h1
  unfold fn_X12_certificate at h2
  obtain ⟨b, hb, h2⟩ := zb_s h2
  have e25 : (0 : Int32) ≤ 25 * cN ∧ 25 * cN ≤ 350 := by have := hN.2; grind
  simp only [zn01.1, hN.1, zIsIn, zb_some, z64_ge0, z64_ltm _ _ e25.1] at h2
  by_cases d : 0 ≤ p1 ∧ p1 < 25 * cN
  · rw [if_neg (by grind), if_neg (by grind)] at h1
    obtain ⟨a, ha, h1⟩ := zb_s h1
    rw [if_neg (show ¬ (if 0 ≤ p1 ∧ p1 < 25 * cN then (1 : Int32) else 0) = 0 by rw [zif1]; exact fun q => q d)] at h2
    obtain ⟨m1, m2, m3, m4⟩ := zdiv25 p1 d.1 (by grind)
    have mn : p1 / 25 < cN := by
      have k1 := Int32.le_iff_toInt_le.mp d.1
      have k2 := Int32.lt_iff_toInt_lt.mp d.2
      have k3 := Int32.le_iff_toInt_le.mp hN.2.1
      have k4 := Int32.le_iff_toInt_le.mp hN.2.2
      rw [zi_0] at k1 k3
      rw [show (14 : Int32).toInt = 14 by decide +kernel] at k4
      have e1 := zo_idiv (x := p1) (y := 25) (z := p1 / 25) rfl rfl (show (25 : Int32).toInt = 25 by decide +kernel) ⟨k1, by omega⟩
      have e2 := zo_mul (x := 25) (y := cN) (z := 25 * cN) rfl (show (25 : Int32).toInt = 25 by decide +kernel) rfl (by omega)
      exact Int32.lt_iff_toInt_lt.mpr (by rw [e1]; omega)
    generalize p1 - p1 / 25 * 25 = at_ at h1 h2 m3 m4
    generalize p1 / 25 = nr at h1 h2 m1 m2 mn
    rcases zHandP T R H ha hb with ⟨_, z1, z2⟩ | ⟨c, ⟨e1, e2, e3, e4⟩, tr⟩
    · rw [if_pos z1] at h1
      rw [if_pos z2] at h2
      rw [← Option.some.inj h1, ← Option.some.inj h2]
    · dsimp only at e1 e2 e3
      rcases e4 with ⟨w1, _, _, w2⟩ | ⟨w1, _⟩
      · rw [if_neg (by rw [w1]; decide)] at h1
        rw [if_neg (by rw [← e1, w1]; decide)] at h2
        obtain ⟨s1, s2, s3, -⟩ := w2 nr m1 mn
        dsimp only at s1 s2 s3
        obtain ⟨C, -⟩ := H.2.2 c.1 c.2
        by_cases t0 : at_ = 0
        · rw [if_pos t0, zFmtOf hN.2.2 C ⟨m1, mn⟩, zb_some] at h1
          rw [if_pos t0] at h2
          obtain ⟨-, h2⟩ := zg_s h2
          rw [← Option.some.inj h1, ← Option.some.inj h2]
        · rw [if_neg t0] at h1 h2
          by_cases t1 : 8 < at_
          · rw [if_pos t1] at h1
            rw [if_pos (by grind)] at h2
            by_cases t2 : 16 < at_
            · rw [if_pos t2] at h1
              rw [if_pos (by grind)] at h2
              obtain ⟨-, h1⟩ := zg_s h1
              obtain ⟨-, h2⟩ := zg_s h2
              rw [s1] at h1
              obtain ⟨u, hu, h1⟩ := zb_s h1
              obtain ⟨v, hv, h2⟩ := zb_s h2
              rw [← Option.some.inj h1, ← Option.some.inj h2]
              exact Option.some.inj (hu.symm.trans hv)
            · rw [if_neg t2] at h1
              rw [if_neg (by grind)] at h2
              obtain ⟨-, h1⟩ := zg_s h1
              obtain ⟨-, h2⟩ := zg_s h2
              rw [s3] at h2
              obtain ⟨u, hu, h1⟩ := zb_s h1
              obtain ⟨v, hv, h2⟩ := zb_s h2
              rw [← Option.some.inj h1, ← Option.some.inj h2]
              exact Option.some.inj (hu.symm.trans hv)
          · rw [if_neg t1] at h1
            rw [if_neg (by grind)] at h2
            obtain ⟨-, h1⟩ := zg_s h1
            obtain ⟨-, h2⟩ := zg_s h2
            rw [s2] at h2
            obtain ⟨u, hu, h1⟩ := zb_s h1
            obtain ⟨v, hv, h2⟩ := zb_s h2
            rw [← Option.some.inj h1, ← Option.some.inj h2]
            exact Option.some.inj (hu.symm.trans hv)
      · rw [if_pos w1] at h1
        rw [if_pos (e1.symm.trans w1)] at h2
        rw [← Option.some.inj h1, ← Option.some.inj h2]
  · rw [if_pos (show (if 0 ≤ p1 ∧ p1 < 25 * cN then (1 : Int32) else 0) = 0 by rw [zif1]; exact d)] at h2
    have ex : x.1 = (-1) := by
      by_cases z : p1 < 0
      · rw [if_pos z] at h1; rw [← Option.some.inj h1]
      · rw [if_neg z, if_pos (by grind)] at h1; rw [← Option.some.inj h1]
    have ey : y.1 = (-1) := by
      by_cases z : b.1 = 0
      · rw [if_pos z] at h2; rw [← Option.some.inj h2]
      · rw [if_neg z] at h2; rw [← Option.some.inj h2]
    rw [ex, ey]
