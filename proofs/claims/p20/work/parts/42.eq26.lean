/-! calls that ask of the CHOICE at hand -/
theorem zHandP {cF cc cN inp gcl mHh mFa mFw : Int32} {nF nN stp mst prc al made amt op fx jn lets gof gfx rwd hand mF mN mCst mNF mNN mS mM mC mW mO m1 m2 mX mG mH mTr : Nat → Int32} {rlo rhi mA mB mLe mGe mEr : Nat → Int64} {mWb : Int64} {fa rs : Int32} {er0 : Nat → Int64} {x : Int32 × Int32 × Int32 × (Nat → Int64)} {y : Int32 × Int32 × Int32 × Int32 × (Nat → Int32) × (Nat → Int64) × (Nat → Int64) × (Nat → Int64)} (T : zTN cF cc cN inp nF nN stp mst prc al made amt op fx jn lets mF mN mNF mNN mS mM mC mW mCst mO m1 m2 mX mG mA mB) (R : zRN cN (-1) 0 op made amt rwd rlo rhi) (H : zHN cN cF gcl mHh gof gfx hand mH) (h1 : fn_X11_handPasses cF cN gcl fa rs gof hand stp op made er0 amt rlo rhi mst al = some x) (h2 : fn_X12_handPasses mWb mHh mFa mFw mN mH mTr mO m1 m2 mLe mA mB mGe mS mEr mM mW = some y) : (¬ (0 < cN ∧ gcl = 0) ∧ x.1 = 0 ∧ y.1 = 0) ∨ ((0 < cN ∧ gcl = 0) ∧ zPE cN rlo rhi x (y.1, y.2.2.1, y.2.2.2.1, y.2.2.2.2.2.1, y.2.2.2.2.2.2.1, y.2.2.2.2.2.2.2) ∧ (∀ i : Int32, 0 ≤ i → i < cN → y.2.2.2.2.1 i.toNatClampNeg = mH i.toNatClampNeg)) := by
  have hN := T.2.1
  have T0 := T
  unfold fn_X11_handPasses at h1
  unfold fn_X12_handPasses at h2
  rw [zHasC hN.2.1, zb_some] at h1
  rw [zn01.1, hN.1] at h2
  by_cases c : 0 < cN ∧ gcl = 0
  · right
    refine ⟨c, ?_⟩
    have hh : mHh = 1 := by
      rcases H.1 c.1 with ⟨a1, _⟩ | ⟨_, a2⟩
      · exact a1
      · exact absurd c.2 a2
    rw [if_neg (by rw [zif1]; exact fun q => q c)] at h1
    rw [if_neg (by rw [hh]; decide), if_neg (by have := c.1; grind)] at h2
    obtain ⟨a, ha, h1⟩ := zb_s h1
    obtain ⟨t, ht, h2⟩ := zb_s h2
    obtain ⟨b, hb, h2⟩ := zb_s h2
    have tr := zTrH hN ht
    obtain ⟨C, -⟩ := H.2.2 c.1 c.2
    have pe := zPassEq (wd := rwd) T0 (zRN_1 R) (Or.inl rfl) (zCh_c C tr) ha hb
    have ex : x = a := by
      obtain ⟨a1, a2, a3, a4⟩ := a
      rcases pe.2.2.2 with ⟨w, _⟩ | ⟨w, _⟩
      · dsimp only at w h1
        rw [if_neg (by rw [w]; decide)] at h1
        rw [← Option.some.inj h1, w]
      · dsimp only at w h1
        rw [if_pos w] at h1
        rw [← Option.some.inj h1, w]
    rw [ex, ← Option.some.inj h2]
    exact ⟨pe, tr⟩
  · left
    refine ⟨c, ?_⟩
    rw [if_pos (by rw [zif1]; exact c)] at h1
    have hy : y.1 = 0 := by
      by_cases d : mHh = 0
      · rw [if_pos d] at h2
        rw [← Option.some.inj h2]
      · rw [if_neg d] at h2
        have z : cN = 0 := by
          by_cases z : 0 < cN
          · rcases H.1 z with ⟨_, a2⟩ | ⟨a1, _⟩
            · exact absurd ⟨z, a2⟩ c
            · exact absurd a1 d
          · have := hN.2.1
            grind
        rw [if_pos z] at h2
        rw [← Option.some.inj h2]
    exact ⟨by rw [← Option.some.inj h1], hy⟩
theorem zeq_chosen {cF cc cN inp gcl mHh : Int32} {nF nN stp mst prc al made amt op fx jn lets gof gfx hand mF mN mCst mNF mNN mS mM mC mW mO m1 m2 mX mG mH : Nat → Int32} {mA mB : Nat → Int64} {p1 x y : Int32} (T : zTN cF cc cN inp nF nN stp mst prc al made amt op fx jn lets mF mN mNF mNN mS mM mC mW mCst mO m1 m2 mX mG mA mB) (H : zHN cN cF gcl mHh gof gfx hand mH) (h1 : fn_X11_chosen p1 cN gcl gof hand = some x) (h2 : fn_X12_chosen p1 mHh mN mH = some y) : x = y := by
  obtain ⟨hF, ⟨n1, n2, n3⟩, hC, hz, hp, hI, hf, hn, hg⟩ := T
  unfold fn_X11_chosen at h1
  unfold fn_X12_chosen at h2
  rw [zHasC n2, zb_some, zHasN, zb_some] at h1
  rw [zIsNum (by rw [n1]; exact n2), zb_some, n1] at h2
  by_cases d : 0 ≤ p1 ∧ p1 < cN
  · have c0 : 0 < cN := by grind
    rw [if_neg (show ¬ (if 0 ≤ p1 ∧ p1 < cN then (1 : Int32) else 0) = 0 by rw [zif1]; exact fun q => q d)] at h1 h2
    rcases H.1 c0 with ⟨a1, a2⟩ | ⟨a1, a2⟩
    · obtain ⟨C, -⟩ := H.2.2 c0 a2
      rw [if_neg (by rw [zif1]; exact fun q => q ⟨c0, a2⟩), zFmtOf n3 C d, zb_some] at h1
      rw [if_neg (by rw [a1]; decide)] at h2
      obtain ⟨-, h2⟩ := zg_s h2
      rw [← Option.some.inj h1, ← Option.some.inj h2]
    · rw [if_pos (by rw [zif1]; exact fun q => a2 q.2)] at h1
      rw [if_pos a1] at h2
      rw [← Option.some.inj h1, ← Option.some.inj h2]
  · rw [if_pos (show (if 0 ≤ p1 ∧ p1 < cN then (1 : Int32) else 0) = 0 by rw [zif1]; exact d)] at h1 h2
    have e1 : x = (-1) := by
      by_cases c : (if 0 < cN ∧ gcl = 0 then (1 : Int32) else 0) = 0
      · rw [if_pos c] at h1; exact (Option.some.inj h1).symm
      · rw [if_neg c] at h1; exact (Option.some.inj h1).symm
    have e2 : y = (-1) := by
      by_cases c : mHh = 0
      · rw [if_pos c] at h2; exact (Option.some.inj h2).symm
      · rw [if_neg c] at h2; exact (Option.some.inj h2).symm
    rw [e1, e2]
theorem zeq_cost {cF cc cN inp gcl mHh : Int32} {nF nN stp mst prc al made amt op fx jn lets gof gfx hand mF mN mCst mNF mNN mS mM mC mW mO m1 m2 mX mG mH mTr : Nat → Int32} {mA mB : Nat → Int64} {x : Int32} {y : Int32 × (Nat → Int32)} (T : zTN cF cc cN inp nF nN stp mst prc al made amt op fx jn lets mF mN mNF mNN mS mM mC mW mCst mO m1 m2 mX mG mA mB) (H : zHN cN cF gcl mHh gof gfx hand mH) (h1 : fn_X11_cost cF cc cN gcl made gof hand prc = some x) (h2 : fn_X12_cost mHh mN mH mTr mCst m1 m2 mC = some y) : x = y.1 := by
  have hN := T.2.1
  unfold fn_X11_cost at h1
  unfold fn_X12_cost at h2
  rw [zHasC hN.2.1, zb_some] at h1
  rw [zIsTh ⟨hN.1, hN.2.1⟩ H, zb_some] at h2
  by_cases c : 0 < cN ∧ gcl = 0
  · rw [if_neg (by rw [zif1]; exact fun q => q c)] at h1 h2
    obtain ⟨a, ha, h1⟩ := zb_s h1
    obtain ⟨t, ht, h2⟩ := zb_s h2
    obtain ⟨b, hb, h2⟩ := zb_s h2
    obtain ⟨C, -⟩ := H.2.2 c.1 c.2
    rw [← Option.some.inj h1, ← Option.some.inj h2]
    exact zPriceEq T (zCh_c C (zTrH hN ht)) ha hb
  · rw [if_pos (by rw [zif1]; exact c)] at h1 h2
    rw [← Option.some.inj h1, ← Option.some.inj h2]
theorem zeq_casts {cF cc cN inp gcl mHh : Int32} {nF nN stp mst prc al made amt op fx jn lets gof gfx hand mF mN mCst mNF mNN mS mM mC mW mO m1 m2 mX mG mH mTr : Nat → Int32} {mA mB : Nat → Int64} {x : Int32} {y : Int32 × (Nat → Int32)} (T : zTN cF cc cN inp nF nN stp mst prc al made amt op fx jn lets mF mN mNF mNN mS mM mC mW mCst mO m1 m2 mX mG mA mB) (H : zHN cN cF gcl mHh gof gfx hand mH) (h1 : fn_X11_casts cN gcl made gof hand = some x) (h2 : fn_X12_casts mHh mN mH mTr m1 m2 = some y) : x = y.1 := by
  have hN := T.2.1
  unfold fn_X11_casts at h1
  unfold fn_X12_casts at h2
  rw [zHasC hN.2.1, zb_some] at h1
  rw [zIsTh ⟨hN.1, hN.2.1⟩ H, zb_some] at h2
  by_cases c : 0 < cN ∧ gcl = 0
  · rw [if_neg (by rw [zif1]; exact fun q => q c)] at h1 h2
    obtain ⟨a, ha, h1⟩ := zb_s h1
    obtain ⟨t, ht, h2⟩ := zb_s h2
    obtain ⟨b, hb, h2⟩ := zb_s h2
    obtain ⟨C, -⟩ := H.2.2 c.1 c.2
    rw [← Option.some.inj h1, ← Option.some.inj h2]
    exact zCastsEq T (zCh_c C (zTrH hN ht)) ha hb
  · rw [if_pos (by rw [zif1]; exact c)] at h1 h2
    rw [← Option.some.inj h1, ← Option.some.inj h2]
/-- what the reference says by handPasses, where there is a CHOICE -/
theorem zHPM {cF cc cN inp gcl mHh mFa mFw : Int32} {nF nN stp mst prc al made amt op fx jn lets gof gfx rwd hand mF mN mCst mNF mNN mS mM mC mW mO m1 m2 mX mG mH mTr : Nat → Int32} {rlo rhi mA mB mLe mGe mEr : Nat → Int64} {mWb : Int64} {fa rs : Int32} {er0 : Nat → Int64} {a : Int32 × Int32 × Int32 × (Nat → Int64)} {y : Int32 × Int32 × Int32 × Int32 × (Nat → Int32) × (Nat → Int64) × (Nat → Int64) × (Nat → Int64)} (T : zTN cF cc cN inp nF nN stp mst prc al made amt op fx jn lets mF mN mNF mNN mS mM mC mW mCst mO m1 m2 mX mG mA mB) (R : zRN cN (-1) 0 op made amt rwd rlo rhi) (H : zHN cN cF gcl mHh gof gfx hand mH) (c : 0 < cN ∧ gcl = 0) (h1 : fn_X7_reckon cF cN gof hand stp op made er0 amt rlo rhi mst al = some a) (h2 : fn_X12_handPasses mWb mHh mFa mFw mN mH mTr mO m1 m2 mLe mA mB mGe mS mEr mM mW = some y) : zPE cN rlo rhi a (y.1, y.2.2.1, y.2.2.2.1, y.2.2.2.2.2.1, y.2.2.2.2.2.2.1, y.2.2.2.2.2.2.2) := by
  have hN := T.2.1
  unfold fn_X12_handPasses at h2
  rw [zn01.1, hN.1] at h2
  have hh : mHh = 1 := by
    rcases H.1 c.1 with ⟨a1, _⟩ | ⟨_, a2⟩
    · exact a1
    · exact absurd c.2 a2
  rw [if_neg (by rw [hh]; decide), if_neg (by have := c.1; grind)] at h2
  obtain ⟨t, ht, h2⟩ := zb_s h2
  obtain ⟨b, hb, h2⟩ := zb_s h2
  obtain ⟨C, -⟩ := H.2.2 c.1 c.2
  rw [← Option.some.inj h2]
  exact zPassEq (wd := rwd) T (zRN_1 R) (Or.inl rfl) (zCh_c C (zTrH hN ht)) h1 hb
theorem zeq_fails {cF cc cN inp gcl mHh mWn mFa mFw : Int32} {nF nN stp mst prc al made amt op fx jn lets gof gfx rwd hand mF mN mCst mNF mNN mS mM mC mW mO m1 m2 mX mG mH mTr : Nat → Int32} {rlo rhi mA mB mLe mGe mEr : Nat → Int64} {mWb : Int64} {fa rs : Int32} {er0 : Nat → Int64} {x : Int32 × Int32 × Int32 × (Nat → Int64)} {y : Int32 × Int32 × Int32 × Int32 × (Nat → Int32) × (Nat → Int64) × (Nat → Int64) × (Nat → Int64)} (T : zTN cF cc cN inp nF nN stp mst prc al made amt op fx jn lets mF mN mNF mNN mS mM mC mW mCst mO m1 m2 mX mG mA mB) (R : zRN cN (-1) 0 op made amt rwd rlo rhi) (H : zHN cN cF gcl mHh gof gfx hand mH) (h1 : fn_X11_fails cF cN gcl fa rs gof hand stp op made er0 amt rlo rhi mst al = some x) (h2 : fn_X12_fails mWn mWb mHh mFa mFw mN mH mTr mO m1 m2 mLe mA mB mGe mS mEr mM mW = some y) : x.1 = y.1 := by
  have hN := T.2.1
  unfold fn_X11_fails at h1
  unfold fn_X12_fails at h2
  rw [zHasC hN.2.1, zb_some] at h1
  rw [zIsTh ⟨hN.1, hN.2.1⟩ H, zb_some] at h2
  by_cases c : 0 < cN ∧ gcl = 0
  · rw [if_neg (by rw [zif1]; exact fun q => q c)] at h1 h2
    obtain ⟨a, ha, h1⟩ := zb_s h1
    obtain ⟨b, hb, h2⟩ := zb_s h2
    obtain ⟨p1, p2, p3, p4⟩ := zHPM (fa := fa) (rs := rs) T R H c ha hb
    dsimp only at p1 p2 p3
    rw [← Option.some.inj h1]
    rcases p4 with ⟨w1, w2, _⟩ | ⟨w1, _⟩
    · rw [if_neg (by rw [← p1, w1]; decide)] at h2
      rw [← Option.some.inj h2]; exact w2
    · rw [if_pos (p1.symm.trans w1)] at h2
      rw [← Option.some.inj h2]; exact p2
  · rw [if_pos (by rw [zif1]; exact c)] at h1 h2
    rw [← Option.some.inj h1, ← Option.some.inj h2]
theorem zeq_why {cF cc cN inp gcl mHh mWn mFa mFw : Int32} {nF nN stp mst prc al made amt op fx jn lets gof gfx rwd hand mF mN mCst mNF mNN mS mM mC mW mO m1 m2 mX mG mH mTr : Nat → Int32} {rlo rhi mA mB mLe mGe mEr : Nat → Int64} {mWb : Int64} {fa rs : Int32} {er0 : Nat → Int64} {x : Int32 × Int32 × Int32 × (Nat → Int64)} {y : Int32 × Int32 × Int32 × Int32 × (Nat → Int32) × (Nat → Int64) × (Nat → Int64) × (Nat → Int64)} (T : zTN cF cc cN inp nF nN stp mst prc al made amt op fx jn lets mF mN mNF mNN mS mM mC mW mCst mO m1 m2 mX mG mA mB) (R : zRN cN (-1) 0 op made amt rwd rlo rhi) (H : zHN cN cF gcl mHh gof gfx hand mH) (h1 : fn_X11_why cF cN gcl fa rs gof hand stp op made er0 amt rlo rhi mst al = some x) (h2 : fn_X12_why mWn mWb mHh mFa mFw mN mH mTr mO m1 m2 mLe mA mB mGe mS mEr mM mW = some y) : x.1 = y.1 := by
  have hN := T.2.1
  unfold fn_X11_why at h1
  unfold fn_X12_why at h2
  rw [zHasC hN.2.1, zb_some] at h1
  rw [zIsTh ⟨hN.1, hN.2.1⟩ H, zb_some] at h2
  by_cases c : 0 < cN ∧ gcl = 0
  · rw [if_neg (by rw [zif1]; exact fun q => q c)] at h1 h2
    obtain ⟨a, ha, h1⟩ := zb_s h1
    obtain ⟨b, hb, h2⟩ := zb_s h2
    obtain ⟨p1, p2, p3, p4⟩ := zHPM (fa := fa) (rs := rs) T R H c ha hb
    dsimp only at p1 p2 p3
    rw [← Option.some.inj h1]
    rcases p4 with ⟨w1, _, w2, _⟩ | ⟨w1, _⟩
    · rw [if_neg (by rw [← p1, w1]; decide)] at h2
      rw [← Option.some.inj h2]; exact w2
    · rw [if_pos (p1.symm.trans w1)] at h2
      rw [← Option.some.inj h2]; exact p3
  · rw [if_pos (by rw [zif1]; exact c)] at h1 h2
    rw [← Option.some.inj h1, ← Option.some.inj h2]
theorem zeq_error {cF cc cN inp gcl mHh mWn mFa mFw : Int32} {nF nN stp mst prc al made amt op fx jn lets gof gfx rwd hand mF mN mCst mNF mNN mS mM mC mW mO m1 m2 mX mG mH mTr : Nat → Int32} {rlo rhi mA mB mLe mGe mEr : Nat → Int64} {mWb : Int64} {p1 fa rs : Int32} {er0 : Nat → Int64} {x : Int64 × Int32 × Int32 × (Nat → Int64)} {y : Int64 × Int32 × Int32 × Int32 × (Nat → Int32) × (Nat → Int64) × (Nat → Int64) × (Nat → Int64)} (T : zTN cF cc cN inp nF nN stp mst prc al made amt op fx jn lets mF mN mNF mNN mS mM mC mW mCst mO m1 m2 mX mG mA mB) (R : zRN cN (-1) 0 op made amt rwd rlo rhi) (H : zHN cN cF gcl mHh gof gfx hand mH) (h1 : fn_X11_error p1 cF cN gcl fa rs gof hand stp op made er0 amt rlo rhi mst al = some x) (h2 : fn_X12_error p1 mWn mWb mHh mFa mFw mN mH mTr mO m1 m2 mLe mA mB mGe mS mEr mM mW = some y) : x.1 = y.1 := by
  have hN := T.2.1
  unfold fn_X11_error at h1
  unfold fn_X12_error at h2
  rw [zHasC hN.2.1, zb_some, zHasN, zb_some] at h1
  rw [zIsTh ⟨hN.1, hN.2.1⟩ H, zb_some, zIsNum (by rw [hN.1]; exact hN.2.1), zb_some, hN.1] at h2
  by_cases c : 0 < cN ∧ gcl = 0
  · rw [if_neg (show ¬ (if 0 < cN ∧ gcl = 0 then (1 : Int32) else 0) = 0 by rw [zif1]; exact fun q => q c)] at h1 h2
    by_cases d : 0 ≤ p1 ∧ p1 < cN
    · rw [if_neg (by rw [zif1]; exact fun q => q d)] at h1 h2
      obtain ⟨a, ha, h1⟩ := zb_s h1
      obtain ⟨b, hb, h2⟩ := zb_s h2
      obtain ⟨e1, e2, e3, e4⟩ := zHPM (fa := fa) (rs := rs) T R H c ha hb
      dsimp only at e1 e2 e3
      rcases e4 with ⟨w1, _, _, w2⟩ | ⟨w1, _, _, _, w2⟩
      · rw [if_neg (by rw [w1]; decide)] at h1
        rw [if_neg (by rw [← e1, w1]; decide)] at h2
        obtain ⟨-, h1⟩ := zg_s h1
        obtain ⟨-, h2⟩ := zg_s h2
        rw [← Option.some.inj h1, ← Option.some.inj h2]
        exact (w2 p1 d.1 d.2).1
      · rw [if_pos w1] at h1
        rw [if_pos (e1.symm.trans w1), ← e2] at h2
        by_cases f : a.2.1 < p1
        · rw [if_pos f] at h1 h2
          rw [← Option.some.inj h1, ← Option.some.inj h2]
        · rw [if_neg f] at h1 h2
          obtain ⟨-, h1⟩ := zg_s h1
          obtain ⟨-, h2⟩ := zg_s h2
          rw [← Option.some.inj h1, ← Option.some.inj h2]
          exact w2 p1 d.1 (by grind)
    · rw [if_pos (by rw [zif1]; exact d)] at h1 h2
      rw [← Option.some.inj h1, ← Option.some.inj h2]
  · rw [if_pos (show (if 0 < cN ∧ gcl = 0 then (1 : Int32) else 0) = 0 by rw [zif1]; exact c)] at h1 h2
    rw [← Option.some.inj h1, ← Option.some.inj h2]
theorem zIsAnsJ {p cN : Int32} {al : Nat → Int32} (hN : cN ≤ 14) : fn_X9_isAnswer p cN al = some (if (0 ≤ p ∧ p < cN) ∧ ¬ al p.toNatClampNeg = (-1) then 1 else 0) := by
  by_cases d : 0 ≤ p ∧ p < cN
  · rw [zIsAns hN d]
    by_cases e : al p.toNatClampNeg = (-1)
    · rw [if_pos e, if_neg (fun q => q.2 e)]
    · rw [if_neg e, if_pos ⟨d, e⟩]
  · unfold fn_X9_isAnswer
    rw [zHasN, zb_some, if_pos (by rw [zif1]; exact d), if_neg (fun q => d q.1)]
theorem zIsAnsM {cF cc cN inp : Int32} {nF nN stp mst prc al made amt op fx jn lets mF mN mCst mNF mNN mS mM mC mW mO m1 m2 mX mG : Nat → Int32} {mA mB : Nat → Int64} {p1 x : Int32} (T : zTN cF cc cN inp nF nN stp mst prc al made amt op fx jn lets mF mN mNF mNN mS mM mC mW mCst mO m1 m2 mX mG mA mB) (h : fn_X12_isAnswer p1 mN mW = some x) : x = if (0 ≤ p1 ∧ p1 < cN) ∧ ¬ al p1.toNatClampNeg = (-1) then 1 else 0 := by
  obtain ⟨hF, ⟨n1, n2, n3⟩, hC, hz, hp, hI, hf, hn, hg⟩ := T
  unfold fn_X12_isAnswer at h
  rw [zIsNum (by rw [n1]; exact n2), zb_some, n1] at h
  by_cases d : 0 ≤ p1 ∧ p1 < cN
  · rw [if_neg (by rw [zif1]; exact fun q => q d)] at h
    obtain ⟨-, h⟩ := zg_s h
    rw [← (hn p1 d.1 d.2).2.2.2.1] at h
    by_cases e : al p1.toNatClampNeg = (-1)
    · rw [if_pos e] at h
      rw [if_neg (fun q => q.2 e)]; exact (Option.some.inj h).symm
    · rw [if_neg e] at h
      rw [if_pos ⟨d, e⟩]; exact (Option.some.inj h).symm
  · rw [if_pos (by rw [zif1]; exact d)] at h
    rw [if_neg (fun q => d q.1)]; exact (Option.some.inj h).symm
theorem zeq_slack {cF cc cN inp gcl mHh mWn mFa mFw : Int32} {nF nN stp mst prc al made amt op fx jn lets gof gfx rwd hand mF mN mCst mNF mNN mS mM mC mW mO m1 m2 mX mG mH mTr : Nat → Int32} {rlo rhi mA mB mLe mGe mEr : Nat → Int64} {mWb : Int64} {p1 fa rs : Int32} {er0 : Nat → Int64} {x : Int64 × Int32 × Int32 × (Nat → Int64)} {y : Int64 × Int32 × Int32 × Int32 × (Nat → Int32) × (Nat → Int64) × (Nat → Int64) × (Nat → Int64)} (T : zTN cF cc cN inp nF nN stp mst prc al made amt op fx jn lets mF mN mNF mNN mS mM mC mW mCst mO m1 m2 mX mG mA mB) (R : zRN cN (-1) 0 op made amt rwd rlo rhi) (H : zHN cN cF gcl mHh gof gfx hand mH) (h1 : fn_X11_slack p1 cF cN al gcl fa rs gof hand stp op made er0 amt rlo rhi mst = some x) (h2 : fn_X12_slack p1 mWn mWb mHh mFa mFw mN mW mH mTr mO m1 m2 mLe mA mB mGe mS mEr mM = some y) : x.1 = y.1 := by
  have hN := T.2.1
  unfold fn_X11_slack at h1
  unfold fn_X12_slack at h2
  rw [zIsAnsJ hN.2.2, zb_some] at h1
  obtain ⟨w, hw, h2⟩ := zb_s h2
  rw [zIsAnsM T hw] at h2
  by_cases d : (0 ≤ p1 ∧ p1 < cN) ∧ ¬ al p1.toNatClampNeg = (-1)
  · rw [if_neg (by rw [zif1]; exact fun q => q d)] at h1 h2
    obtain ⟨a, ha, h1⟩ := zb_s h1
    obtain ⟨b, hb, h2⟩ := zb_s h2
    rcases zHandP T R H ha hb with ⟨_, z1, z2⟩ | ⟨c, ⟨e1, e2, e3, e4⟩, _⟩
    · rw [if_pos z1] at h1
      rw [if_pos z2] at h2
      rw [← Option.some.inj h1, ← Option.some.inj h2]
    · dsimp only at e1 e2 e3
      rcases e4 with ⟨w1, _, _, w2⟩ | ⟨w1, _⟩
      · rw [if_neg (by rw [w1]; decide)] at h1
        rw [if_neg (by rw [← e1, w1]; decide)] at h2
        obtain ⟨-, h1⟩ := zg_s h1
        obtain ⟨-, h2⟩ := zg_s h2
        obtain ⟨-, h2⟩ := zg_s h2
        rw [← Option.some.inj h1, ← Option.some.inj h2]
        show (al p1.toNatClampNeg).toInt64 - a.2.2.2 p1.toNatClampNeg = (mW p1.toNatClampNeg).toInt64 - b.2.2.2.2.2.2.2 p1.toNatClampNeg
        obtain ⟨hF, _, hC, hz, hp, hI, hf, hn, hg⟩ := T
        rw [(hn p1 d.1.1 d.1.2).2.2.2.1]
        have := (w2 p1 d.1.1 d.1.2).1
        dsimp only at this
        rw [this]
      · rw [if_pos w1] at h1
        rw [if_pos (e1.symm.trans w1)] at h2
        rw [← Option.some.inj h1, ← Option.some.inj h2]
  · rw [if_pos (by rw [zif1]; exact d)] at h1 h2
    rw [← Option.some.inj h1, ← Option.some.inj h2]
