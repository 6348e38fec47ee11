/-! the search over all CHOICES: what is kept of it, and the reference's -/
theorem zAllC {cF mFn : Int32} {mF : Nat → Int32} {x : Int32} (hF : mF 0 = cF) (hn : 0 ≤ mFn ∧ mFn ≤ 14) (h : fn_X12_allChoices mFn mF = some x) : x = zpw cF mFn.toNatClampNeg := by
  unfold fn_X12_allChoices at h
  rw [zn01.1, hF] at h
  refine zl_ip (P := fun x : Int32 => x = zpw cF mFn.toNatClampNeg) (fun s => (0 ≤ s.2 ∧ s.2 ≤ mFn) ∧ s.1 = zpw cF s.2.toNatClampNeg) ?_ _ _ _ ?_ h
  rotate_left
  · exact ⟨⟨Int32.le_refl 0, hn.1⟩, by show (1 : Int32) = zpw cF (0 : Int32).toNatClampNeg; rw [zn01.1]; rfl⟩
  intro s back o ⟨H1, H2⟩ hb ho
  obtain ⟨q, g⟩ := s
  dsimp only at H1 H2 ho
  by_cases c : mFn ≤ g
  · rw [if_pos c] at ho
    rw [← Option.some.inj ho, H2, Int32.le_antisymm H1.2 c]
  · rw [if_neg c] at ho
    have g5 : 0 ≤ g + 1 ∧ g + 1 ≤ mFn ∧ g ≤ 1200 := by clear ho hb; grind
    refine hb _ _ ?_ ho
    refine ⟨⟨g5.1, g5.2.1⟩, ?_⟩
    show q * cF = zpw cF (g + 1).toNatClampNeg
    rw [zpw_s H1.1 g5.2.2, H2]
set_option maxHeartbeats 4000000 in
theorem zCheapC {cF cc cN inp gc gfr gcl mHh mFn mFa mFw : Int32} {nF nN stp mst prc al made amt op fx jn lets gof gfx gld rwd hand mF mN mCst mNF mNN mS mM mC mW mO m1 m2 mX mG mH mTr mFr : Nat → Int32} {rlo rhi mA mB mLe mGe mEr : Nat → Int64} {mWb : Int64} {q an many b bp : Int32} {ok pr P E : Nat → Int32} {er : Nat → Nat → Int64} {x : Int32 × Int32 × Int32 × (Nat → Int32) × (Nat → Int64) × (Nat → Int64) × (Nat → Int64)} (T : zTN cF cc cN inp nF nN stp mst prc al made amt op fx jn lets mF mN mNF mNN mS mM mC mW mCst mO m1 m2 mX mG mA mB) (G : zGp cN gc gfr gcl gof gfx gld fx mG) (R : zRN cN (-1) 0 op made amt rwd rlo rhi) (H : zHN cN cF gcl mHh gof gfx hand mH) (cl : 0 < cN ∧ gcl = 0) (L : zFL cN mFn gfx mG mFr) (hn : 0 ≤ mFn ∧ mFn ≤ 14) (hq : q = zpw cF mFn.toNatClampNeg ∧ 0 ≤ q ∧ q ≤ 1024) (K : zFS cF cc cN gc gof gfx stp mst prc al made amt op rlo rhi q an ok pr er many b bp P E) (h : fn_X12_cheapestChoice mFn (-1) mWb mFa mFw mF mN mH mTr mFr mG mCst m1 m2 mC mO mLe mA mB mGe mS mEr mM mW = some x) : x.1 = b := by
  obtain ⟨K1, -, K3, -⟩ := K
  unfold fn_X12_cheapestChoice at h
  obtain ⟨a, ha, h⟩ := zb_s h
  have ea : a = q := (zAllC T.1.1 hn ha).trans hq.1.symm
  rw [ea] at h
  clear ha
  refine zl_ip (P := fun x : Int32 × Int32 × Int32 × (Nat → Int32) × (Nat → Int64) × (Nat → Int64) × (Nat → Int64) => x.1 = b) (fun s => (0 ≤ s.2.2.1 ∧ s.2.2.1 ≤ q) ∧ zBs s.2.2.1 ok pr s.1 s.2.1) ?_ _ _ _ ?_ h
  rotate_left
  · exact ⟨⟨Int32.le_refl 0, hq.2.1⟩, zBs_0⟩
  intro s back o ⟨H1, H2⟩ hb ho
  obtain ⟨be, le, c, fa, fw, l1, g1, tr, em⟩ := s
  dsimp only at H1 H2 ho
  by_cases d : q ≤ c
  · rw [if_pos d] at ho
    rw [Int32.le_antisymm H1.2 d] at H2
    rw [← Option.some.inj ho]
    exact (zBs_eq H2 K3).1
  · rw [if_neg d] at ho
    have cq : c < q := Int32.not_le.mp d
    have cb : (0 ≤ c ∧ c ≤ 1023) ∧ (0 ≤ c ∧ c < 100000) ∧ 0 ≤ c + 1 ∧ c + 1 ≤ q := by have := H1.1; have := hq.2.2; clear H2 hb ho K1 K3 T G R H L; grind
    obtain ⟨t, ht, ho⟩ := zb_s ho
    obtain ⟨w, hw, ho⟩ := zb_s ho
    have ty := K1 c H1.1 cq
    have cost := fun z => zTryCost T G H cl cb.1 L ty ht hw z
    obtain ⟨j, ej, ho⟩ := zj_g ho
    have hj : (be = (-1) ∨ w < le) → j () = some o → o.1 = b := by
      intro hbe hj
      have hj := zj_s ej hj
      obtain ⟨y, hy, hj⟩ := zb_s hj
      obtain ⟨p1, -, -⟩ := zTryPass T G R H cl cb.1 L ty ht hy
      by_cases e : y.1 = 0
      · rw [if_pos e] at hj
        refine hb _ _ ?_ hj
        exact ⟨⟨cb.2.2.1, cb.2.2.2⟩, zBs_no cb.2.1 H2 (p1.symm.trans e)⟩
      · rw [if_neg e] at hj
        have o0 : ¬ ok c.toNatClampNeg = 0 := fun z => e (p1.trans z)
        have ec := cost o0
        have up := zBs_up cb.2.1 H2 o0 (by rw [← ec]; exact hbe)
        rw [← ec] at up
        refine hb _ _ ?_ hj
        exact ⟨⟨cb.2.2.1, cb.2.2.2⟩, up⟩
    by_cases e : be = (-1)
    · rw [if_pos e] at ho
      exact hj (Or.inl e) ho
    · rw [if_neg e] at ho
      by_cases f : le ≤ w
      · rw [if_pos f] at ho
        refine hb _ _ ?_ ho
        refine ⟨⟨cb.2.2.1, cb.2.2.2⟩, ?_⟩
        show zBs (c + 1) ok pr be le
        by_cases z : ok c.toNatClampNeg = 0
        · exact zBs_no cb.2.1 H2 z
        · exact zBs_st cb.2.1 H2 e (by rw [← cost z]; exact f)
      · rw [if_neg f] at ho
        exact hj (Or.inr (Int32.not_le.mp f)) ho
/-- what is kept of the search, while the TASK stays -/
noncomputable def zFC (cF cc cN gc gfr gcl : Int32) (gof gfx stp mst prc al made amt op : Nat → Int32) (rlo rhi : Nat → Int64) (rd an many b bp : Int32) (P : Nat → Int32) (nP : Nat) (E : Nat → Int32) (nE : Nat) : Prop := rd = 0 ∨ (0 < cN → gfr ≤ 5 → (¬ gcl = 0 ∧ many = 0 ∧ b = (-1)) ∨ (gcl = 0 ∧ zFA cF cc cN gc gfr gof gfx stp mst prc al made amt op rlo rhi an many b bp P nP E nE))
theorem zGfr {cF cc cN inp gc gfr gcl : Int32} {nF nN stp mst prc al made amt op fx jn lets gof gfx gld mF mN mCst mNF mNN mS mM mC mW mO m1 m2 mX mG : Nat → Int32} {mA mB : Nat → Int64} (T : zTN cF cc cN inp nF nN stp mst prc al made amt op fx jn lets mF mN mNF mNN mS mM mC mW mCst mO m1 m2 mX mG mA mB) (G : zGp cN gc gfr gcl gof gfx gld fx mG) : (0 ≤ gfr ∧ gfr ≤ 14) ∧ zFk gfx mG cN.toNatClampNeg = gfr := by
  have hN := T.2.1
  have l14 := z14' hN.2.1 hN.2.2
  have e : zFk gfx mG cN.toNatClampNeg = gfr := by rw [G.2, G.1.1]; exact (zFreeC gfx mG cN.toNatClampNeg l14).symm
  have b := zct_b32 (b := fun k => decide (mG k = Int32.ofNat k ∧ gfx (zRk mG k).toNatClampNeg = (-1))) hN.2.1 hN.2.2
  rw [show zct (fun k => decide (mG k = Int32.ofNat k ∧ gfx (zRk mG k).toNatClampNeg = (-1))) cN.toNatClampNeg = gfr from e] at b
  exact ⟨⟨b.1, Int32.le_trans b.2 hN.2.2⟩, e⟩
set_option maxHeartbeats 4000000 in
theorem zSea {cF cc cN inp gc gfr gcl uRd uAn uMn uBs uBp uFa uRs : Int32} {nF nN stp mst prc al made amt op fx jn lets gof gfx gld mF mN mCst mNF mNN mS mM mC mW mO m1 m2 mX mG uP uE uFp uFe uFm uCh : Nat → Int32} {rlo rhi mA mB uRe : Nat → Int64} {nQP nQE nQ3 nQ4 nQ5 : Nat} {x : Int32 × Int32 × Int32 × Int32 × Int32 × Int32 × (Nat → Int32) × Nat × (Nat → Int32) × Nat × (Nat → Int32) × Nat × (Nat → Int32) × Nat × (Nat → Int32) × Nat × (Nat → Int32) × Int32 × Int32 × (Nat → Int64)} (T : zTN cF cc cN inp nF nN stp mst prc al made amt op fx jn lets mF mN mNF mNN mS mM mC mW mCst mO m1 m2 mX mG mA mB) (G : zGp cN gc gfr gcl gof gfx gld fx mG) (F : zFC cF cc cN gc gfr gcl gof gfx stp mst prc al made amt op rlo rhi uRd uAn uMn uBs uBp uP nQP uE nQE) (h : fn_X1_search uRd uAn uMn uBs uBp cF cc cN gc gfr gcl al nQP uP nQE uE nQ5 uFm nQ4 uFe nQ3 uFp gfx uCh uFa uRs gof stp op made uRe amt rlo rhi mst prc = some x) : zFC cF cc cN gc gfr gcl gof gfx stp mst prc al made amt op rlo rhi x.2.1 x.2.2.1 x.2.2.2.1 x.2.2.2.2.1 x.2.2.2.2.2.1 x.2.2.2.2.2.2.1 x.2.2.2.2.2.2.2.1 x.2.2.2.2.2.2.2.2.1 x.2.2.2.2.2.2.2.2.2.1 ∧ (x.1 = 0 ∧ ¬ (0 < cN ∧ gfr ≤ 5) ∨ x.1 = 1 ∧ (0 < cN ∧ gfr ≤ 5) ∧ (¬ gcl = 0 ∧ x.2.2.2.1 = 0 ∧ x.2.2.2.2.1 = (-1) ∨ gcl = 0 ∧ zFA cF cc cN gc gfr gof gfx stp mst prc al made amt op rlo rhi x.2.2.1 x.2.2.2.1 x.2.2.2.2.1 x.2.2.2.2.2.1 x.2.2.2.2.2.2.1 x.2.2.2.2.2.2.2.1 x.2.2.2.2.2.2.2.2.1 x.2.2.2.2.2.2.2.2.2.1)) := by
  have hN := T.2.1
  have hF := T.1
  have gf := zGfr T G
  unfold fn_X1_search at h
  by_cases c0 : cN = 0
  · rw [if_pos c0] at h
    rw [← Option.some.inj h]
    exact ⟨F, Or.inl ⟨rfl, fun q => by rw [c0] at q; exact absurd q.1 (by decide)⟩⟩
  · rw [if_neg c0] at h
    have cp : 0 < cN := by have := hN.2.1; clear h F T G; grind
    by_cases c5 : gfr ≤ 5
    · rw [if_pos c5] at h
      by_cases r : uRd = 0
      · rw [if_pos r, zHasC hN.2.1, zb_some] at h
        by_cases g0 : gcl = 0
        · rw [if_neg (by rw [zif1]; exact fun q => q ⟨cp, g0⟩)] at h
          obtain ⟨y, hy, h⟩ := zb_s h
          have fa := zSrch hN.2 hF.2 ⟨gf.1.1, c5⟩ hy
          rw [← Option.some.inj h]
          exact ⟨Or.inr (fun _ _ => Or.inr ⟨g0, fa⟩), Or.inr ⟨rfl, ⟨cp, c5⟩, Or.inr ⟨g0, fa⟩⟩⟩
        · rw [if_pos (by rw [zif1]; exact fun q => g0 q.2)] at h
          rw [← Option.some.inj h]
          exact ⟨Or.inr (fun _ _ => Or.inl ⟨g0, rfl, rfl⟩), Or.inr ⟨rfl, ⟨cp, c5⟩, Or.inl ⟨g0, rfl, rfl⟩⟩⟩
      · rw [if_neg r] at h
        have K := (F.resolve_left r) cp c5
        rw [← Option.some.inj h]
        exact ⟨F, Or.inr ⟨rfl, ⟨cp, c5⟩, K⟩⟩
    · rw [if_neg c5] at h
      rw [← Option.some.inj h]
      exact ⟨F, Or.inl ⟨rfl, fun q => c5 q.2⟩⟩
theorem zCanS {cF cc cN inp gc gfr gcl mHh : Int32} {nF nN stp mst prc al made amt op fx jn lets gof gfx gld hand mF mN mCst mNF mNN mS mM mC mW mO m1 m2 mX mG mH mFr : Nat → Int32} {mA mB : Nat → Int64} {x : Int32 × Int32 × Int32 × (Nat → Int32)} (T : zTN cF cc cN inp nF nN stp mst prc al made amt op fx jn lets mF mN mNF mNN mS mM mC mW mCst mO m1 m2 mX mG mA mB) (G : zGp cN gc gfr gcl gof gfx gld fx mG) (H : zHN cN cF gcl mHh gof gfx hand mH) (h : fn_X12_canSearch mHh mN mG mX mFr = some x) : (x.1 = 0 ∧ ¬ ((0 < cN ∧ gfr ≤ 5) ∧ gcl = 0) ∨ x.1 = 1 ∧ (0 < cN ∧ gfr ≤ 5) ∧ gcl = 0) ∧ x.2.2.1 = (-1) ∧ zFL cN x.2.1 gfx mG x.2.2.2 ∧ x.2.1 = gfr := by
  have hN := T.2.1
  have gf := zGfr T G
  unfold fn_X12_canSearch at h
  obtain ⟨f, hf, h⟩ := zb_s h
  have lf := zLaysFree T G hf
  have ef : f.1 = gfr := lf.1.trans gf.2
  rw [zn01.1, hN.1] at h
  by_cases c : cN ≤ 0
  · rw [if_pos c] at h
    rw [← Option.some.inj h]
    exact ⟨Or.inl ⟨rfl, fun q => absurd q.1.1 (Int32.not_lt.mpr c)⟩, rfl, lf, ef⟩
  · rw [if_neg c] at h
    have cp : 0 < cN := Int32.not_le.mp c
    by_cases d : mHh = 0
    · rw [if_pos d] at h
      rw [← Option.some.inj h]
      refine ⟨Or.inl ⟨rfl, fun q => ?_⟩, rfl, lf, ef⟩
      rcases H.1 cp with ⟨a1, _⟩ | ⟨_, a2⟩
      · rw [a1] at d; exact absurd d (by decide)
      · exact a2 q.2
    · rw [if_neg d] at h
      have g0 : gcl = 0 := by
        rcases H.1 cp with ⟨_, a2⟩ | ⟨a1, _⟩
        · exact a2
        · exact absurd a1 d
      rw [ef] at h
      by_cases e : 5 < gfr
      · rw [if_pos e] at h
        rw [← Option.some.inj h]
        exact ⟨Or.inl ⟨rfl, fun q => absurd q.1.2 (Int32.not_le.mpr e)⟩, rfl, by rw [← ef]; exact lf, rfl⟩
      · rw [if_neg e] at h
        rw [← Option.some.inj h]
        exact ⟨Or.inr ⟨rfl, ⟨cp, Int32.not_lt.mp e⟩, g0⟩, rfl, by rw [← ef]; exact lf, rfl⟩
set_option maxHeartbeats 4000000 in
theorem zeq_cheapest {cF cc cN inp gc gfr gcl mHh mFa mFw uRd uAn uMn uBs uBp uFa uRs : Int32} {nF nN stp mst prc al made amt op fx jn lets gof gfx gld rwd hand mF mN mCst mNF mNN mS mM mC mW mO m1 m2 mX mG mH mTr mFr uP uE uFp uFe uFm uCh oth : Nat → Int32} {rlo rhi mA mB mLe mGe mEr uRe : Nat → Int64} {mWb : Int64} {nQP nQE nQ3 nQ4 nQ5 : Nat} {p1 : Int32} {x : Int32 × Int32 × Int32 × Int32 × Int32 × Int32 × (Nat → Int32) × Nat × (Nat → Int32) × Nat × (Nat → Int32) × Nat × (Nat → Int32) × Nat × (Nat → Int32) × Nat × (Nat → Int32) × Int32 × Int32 × (Nat → Int64) × (Nat → Int32)} {y : Int32 × Int32 × Int32 × Int32 × Int32 × (Nat → Int32) × (Nat → Int32) × (Nat → Int64) × (Nat → Int64) × (Nat → Int64)} (T : zTN cF cc cN inp nF nN stp mst prc al made amt op fx jn lets mF mN mNF mNN mS mM mC mW mCst mO m1 m2 mX mG mA mB) (G : zGp cN gc gfr gcl gof gfx gld fx mG) (R : zRN cN (-1) 0 op made amt rwd rlo rhi) (H : zHN cN cF gcl mHh gof gfx hand mH) (F : zFC cF cc cN gc gfr gcl gof gfx stp mst prc al made amt op rlo rhi uRd uAn uMn uBs uBp uP nQP uE nQE) (h1 : fn_X11_cheapest p1 uRd uAn uMn uBs uBp cF cc cN gc gfr gcl al nQP uP nQE uE nQ5 uFm nQ4 uFe nQ3 uFp gfx uCh uFa uRs gof stp op made uRe amt rlo rhi mst prc oth = some x) (h2 : fn_X12_cheapest p1 mWb mHh mFa mFw mN mG mX mFr mF mH mTr mCst m1 m2 mC mO mLe mA mB mGe mS mEr mM mW = some y) : x.1 = y.1 := by
  have hN := T.2.1
  unfold fn_X11_cheapest at h1
  unfold fn_X12_cheapest at h2
  obtain ⟨a, ha, h1⟩ := zb_s h1
  obtain ⟨e, he, h2⟩ := zb_s h2
  obtain ⟨-, ra⟩ := zSea T G F ha
  obtain ⟨re, e2, e3, e4⟩ := zCanS T G H he
  -- neither there
  have no : (a.1 = 0 ∨ a.2.2.2.2.1 = (-1)) → x.1 = (-1) := by
    intro q
    by_cases z : a.1 = 0
    · rw [if_pos z] at h1
      rw [← Option.some.inj h1]
    · rw [if_neg z, if_pos (q.resolve_left z)] at h1
      rw [← Option.some.inj h1]
  rcases re with ⟨r1, r2⟩ | ⟨r1, r2, r3⟩
  · rw [if_pos r1] at h2
    rw [← Option.some.inj h2]
    apply no
    rcases ra with ⟨q, _⟩ | ⟨_, q2, q3⟩
    · exact Or.inl q
    · rcases q3 with ⟨_, _, w⟩ | ⟨w, _⟩
      · exact Or.inr w
      · exact absurd ⟨q2, w⟩ r2
  · rw [if_neg (by rw [r1]; decide)] at h2
    rcases ra with ⟨_, q⟩ | ⟨q1, _, q3⟩
    · exact absurd r2 q
    · rcases q3 with ⟨w, _⟩ | ⟨_, q, ok, pr, er, w1, w2, w3, w4, -, -⟩
      · exact absurd r3 w
      · obtain ⟨j, ej, h2⟩ := zj_g h2
        rw [e2] at ej
        have cl : 0 < cN ∧ gcl = 0 := ⟨r2.1, r3⟩
        have b14 : 0 ≤ e.2.1 ∧ e.2.1 ≤ 14 := by rw [e4]; exact (zGfr T G).1
        have w1' : q = zpw cF (e.2.1).toNatClampNeg := by rw [e4]; exact w1
        have go : j () = some y → (∃ c, fn_X12_cheapestChoice e.2.1 (-1) mWb mFa mFw mF mN mH mTr e.2.2.2 mG mCst m1 m2 mC mO mLe mA mB mGe mS mEr mM mW = some c ∧ (c.1 = (-1) ∧ y.1 = (-1) ∨ ¬ c.1 = (-1) ∧ ∃ t, fn_X12_triesChoice c.1 e.2.1 mN mH c.2.2.2.1 e.2.2.2 mF mG = some t ∧ (p1 = (-1) ∧ fn_X12_costTried mCst mN m1 t m2 mC = some y.1 ∨ ¬ p1 = (-1) ∧ y.1 = t p1.toNatClampNeg))) := by
          intro hj
          have hj := zj_s ej hj
          obtain ⟨c, hc, hj⟩ := zb_s hj
          refine ⟨c, hc, ?_⟩
          by_cases z : c.1 = (-1)
          · rw [if_pos z] at hj
            rw [← Option.some.inj hj]
            exact Or.inl ⟨z, rfl⟩
          · rw [if_neg z] at hj
            obtain ⟨t, ht, hj⟩ := zb_s hj
            refine Or.inr ⟨z, t, ht, ?_⟩
            by_cases v : p1 = (-1)
            · rw [if_pos v] at hj
              obtain ⟨k, hk, hj⟩ := zb_s hj
              rw [← Option.some.inj hj]
              exact Or.inl ⟨v, hk⟩
            · rw [if_neg v] at hj
              obtain ⟨-, hj⟩ := zg_s hj
              rw [← Option.some.inj hj]
              exact Or.inr ⟨v, rfl⟩
        have done : (p1 = (-1) ∨ (0 ≤ p1 ∧ p1 < cN)) → j () = some y → x.1 = y.1 := by
          intro hp hj
          obtain ⟨c, hc, hy⟩ := go hj
          have ec := zCheapC T G R H cl e3 b14 ⟨w1', w4.1, w4.2⟩ w2 hc
          rcases hy with ⟨y1, y2⟩ | ⟨y1, t, ht, hy⟩
          · rw [y2]
            exact no (Or.inr (ec.symm.trans y1))
          · have nb : ¬ a.2.2.2.2.1 = (-1) := fun z => y1 (ec.trans z)
            rw [if_neg (by rw [q1]; decide), if_neg nb] at h1
            rw [ec] at ht
            have bs := w2.2.2.1
            rcases bs with ⟨b1, _⟩ | ⟨b1, b2, b3, _⟩
            · exact absurd b1 nb
            · have bq : 0 ≤ a.2.2.2.2.1 ∧ a.2.2.2.2.1 ≤ 1023 := ⟨b1.1, by have := b1.2; have := w4.2; clear h1 h2 ej go no ht hc w2 T G R H F e3 ha he; grind⟩
              rcases hy with ⟨v, hk⟩ | ⟨v, hk⟩
              · rw [if_pos v] at h1
                rw [← Option.some.inj h1]
                have := zTryCost T G H cl bq e3 (w2.1 _ b1.1 b1.2) ht hk b2
                rw [this]
                exact b3
              · rw [if_neg v] at h1
                have hi := hp.resolve_left v
                obtain ⟨row, hrow, h1⟩ := zb_s h1
                have C := zUnf T G H cl bq e3.1 e3.2 hrow ht
                rw [zHasN, zb_some, if_neg (by rw [zif1]; exact fun q => q hi), zFmtOf hN.2.2 C hi, zb_some] at h1
                rw [← Option.some.inj h1]
                exact hk.symm
        by_cases v : p1 = (-1)
        · rw [if_pos v] at h2
          exact done (Or.inl v) h2
        · rw [if_neg v, zIsNum (by rw [hN.1]; exact hN.2.1), zb_some, hN.1] at h2
          by_cases hi : 0 ≤ p1 ∧ p1 < cN
          · rw [if_neg (by rw [zif1]; exact fun q => q hi)] at h2
            exact done (Or.inr hi) h2
          · rw [if_pos (by rw [zif1]; exact hi)] at h2
            rw [← Option.some.inj h2]
            by_cases nb : a.2.2.2.2.1 = (-1)
            · exact no (Or.inr nb)
            · rw [if_neg (by rw [q1]; decide), if_neg nb, if_neg v] at h1
              obtain ⟨row, hrow, h1⟩ := zb_s h1
              rw [zHasN, zb_some, if_pos (by rw [zif1]; exact hi)] at h1
              rw [← Option.some.inj h1]
set_option maxHeartbeats 4000000 in
theorem zeq_passing {cF cc cN inp gc gfr gcl mHh mWn mFa mFw uRd uAn uMn uBs uBp uFa uRs : Int32} {nF nN stp mst prc al made amt op fx jn lets gof gfx gld rwd hand mF mN mCst mNF mNN mS mM mC mW mO m1 m2 mX mG mH mTr mFr uP uE uFp uFe uFm uCh : Nat → Int32} {rlo rhi mA mB mLe mGe mEr uRe : Nat → Int64} {mWb : Int64} {nQP nQE nQ3 nQ4 nQ5 : Nat} {x : Int32 × Int32 × Int32 × Int32 × Int32 × Int32 × (Nat → Int32) × Nat × (Nat → Int32) × Nat × (Nat → Int32) × Nat × (Nat → Int32) × Nat × (Nat → Int32) × Nat × (Nat → Int32) × Int32 × Int32 × (Nat → Int64)} {y : Int32 × Int32 × Int32 × Int32 × Int32 × (Nat → Int32) × (Nat → Int32) × (Nat → Int64) × (Nat → Int64) × (Nat → Int64)} (T : zTN cF cc cN inp nF nN stp mst prc al made amt op fx jn lets mF mN mNF mNN mS mM mC mW mCst mO m1 m2 mX mG mA mB) (G : zGp cN gc gfr gcl gof gfx gld fx mG) (R : zRN cN (-1) 0 op made amt rwd rlo rhi) (H : zHN cN cF gcl mHh gof gfx hand mH) (F : zFC cF cc cN gc gfr gcl gof gfx stp mst prc al made amt op rlo rhi uRd uAn uMn uBs uBp uP nQP uE nQE) (h1 : fn_X11_passing uRd uAn uMn uBs uBp cF cc cN gc gfr gcl al nQP uP nQE uE nQ5 uFm nQ4 uFe nQ3 uFp gfx uCh uFa uRs gof stp op made uRe amt rlo rhi mst prc = some x) (h2 : fn_X12_passing mWn mWb mHh mFa mFw mN mG mX mFr mF mH mTr mO m1 m2 mLe mA mB mGe mS mEr mM mW = some y) : x.1 = y.1 := by
  have hN := T.2.1
  have gf := zGfr T G
  unfold fn_X11_passing at h1
  unfold fn_X12_passing at h2
  obtain ⟨a, ha, h1⟩ := zb_s h1
  obtain ⟨f, hf, h2⟩ := zb_s h2
  have lf := zLaysFree T G hf
  have ef : f.1 = gfr := lf.1.trans gf.2
  obtain ⟨-, ra⟩ := zSea T G F ha
  rw [zn01.1, hN.1] at h2
  by_cases c0 : cN = 0
  · rw [if_pos c0] at h2
    rcases ra with ⟨q, _⟩ | ⟨_, q, _⟩
    · rw [if_pos q] at h1
      rw [← Option.some.inj h1, ← Option.some.inj h2]
    · rw [c0] at q; exact absurd q.1 (by decide)
  · rw [if_neg c0] at h2
    have cp : 0 < cN := by have := hN.2.1; clear h1 h2 ha hf T G R H F lf ra; grind
    by_cases c5 : gfr ≤ 5
    · rw [if_pos (by rw [ef]; exact c5)] at h2
      rcases ra with ⟨_, q⟩ | ⟨q1, _, q3⟩
      · exact absurd ⟨cp, c5⟩ q
      · rw [if_neg (by rw [q1]; decide)] at h1
        rw [← Option.some.inj h1]
        show a.2.2.2.1 = y.1
        rcases q3 with ⟨w, w2, _⟩ | ⟨g0, q, ok, pr, er, w1, w2, w3, w4, -, -⟩
        · rcases H.1 cp with ⟨_, a2⟩ | ⟨a1, _⟩
          · exact absurd a2 w
          · rw [if_pos a1] at h2
            rw [← Option.some.inj h2]
            exact w2
        · have hh : ¬ mHh = 0 := by
            rcases H.1 cp with ⟨a1, _⟩ | ⟨_, a2⟩
            · rw [a1]; decide
            · exact absurd g0 a2
          rw [if_neg hh] at h2
          obtain ⟨A, hA, h2⟩ := zb_s h2
          have cl : 0 < cN ∧ gcl = 0 := ⟨cp, g0⟩
          have eA : A = q := by
            rw [zAllC T.1.1 (by rw [ef]; exact gf.1) hA, ef]
            exact w1.symm
          rw [eA] at h2
          rw [w2.2.1]
          refine zl_ip (P := fun y : Int32 × Int32 × Int32 × Int32 × Int32 × (Nat → Int32) × (Nat → Int32) × (Nat → Int64) × (Nat → Int64) × (Nat → Int64) => zOc ok q.toNatClampNeg = y.1) (fun s => (0 ≤ s.2.1 ∧ s.2.1 ≤ q) ∧ s.1 = zOc ok s.2.1.toNatClampNeg) ?_ _ _ _ ?_ h2
          rotate_left
          · exact ⟨⟨Int32.le_refl 0, w4.1⟩, by show (0 : Int32) = zOc ok (0 : Int32).toNatClampNeg; rw [zn01.1]; rfl⟩
          intro s back o ⟨H1, H2⟩ hb ho
          obtain ⟨n, c, fa, fw, l1, g1, tr, em⟩ := s
          dsimp only at H1 H2 ho
          by_cases d : q ≤ c
          · rw [if_pos d] at ho
            rw [← Option.some.inj ho]
            show zOc ok q.toNatClampNeg = n
            rw [H2, Int32.le_antisymm H1.2 d]
          · rw [if_neg d] at ho
            have cq : c < q := Int32.not_le.mp d
            have cb : (0 ≤ c ∧ c ≤ 1023) ∧ c ≤ 1200 ∧ 0 ≤ c + 1 ∧ c + 1 ≤ q := by have := H1.1; have := w4.2; clear H2 hb ho w2 T G R H F h1 ha hf hA lf; grind
            obtain ⟨t, ht, ho⟩ := zb_s ho
            obtain ⟨v, hv, ho⟩ := zb_s ho
            obtain ⟨p1, -, -⟩ := zTryPass T G R H cl cb.1 lf (w2.1 c H1.1 cq) ht hv
            by_cases e : v.1 = 0
            · rw [if_pos e] at ho
              refine hb _ _ ?_ ho
              refine ⟨⟨cb.2.2.1, cb.2.2.2⟩, ?_⟩
              show n + 0 = zOc ok (c + 1).toNatClampNeg
              rw [Int32.add_zero, H2]
              exact (zct_f (b := fun n => decide (¬ ok n = 0)) H1.1 cb.2.1 (fun z => (of_decide_eq_true z) (p1.symm.trans e))).symm
            · rw [if_neg e] at ho
              refine hb _ _ ?_ ho
              refine ⟨⟨cb.2.2.1, cb.2.2.2⟩, ?_⟩
              show n + 1 = zOc ok (c + 1).toNatClampNeg
              rw [H2]
              exact (zct_t (b := fun n => decide (¬ ok n = 0)) H1.1 cb.2.1 (decide_eq_true (fun z => e (p1.trans z)))).symm
    · rw [if_neg (by rw [ef]; exact c5)] at h2
      rcases ra with ⟨q, _⟩ | ⟨_, q, _⟩
      · rw [if_pos q] at h1
        rw [← Option.some.inj h1, ← Option.some.inj h2]
      · exact absurd q.2 c5
