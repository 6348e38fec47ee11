set_option maxHeartbeats 8000000 in
theorem zPassEq {cF cc cN inp : Int32} {nF nN stp mst prc al made amt op fx jn lets gof mF mN mCst mNF mNN mS mM mC mW mO m1 m2 mX mG mTr : Nat → Int32} {mA mB mLe mGe mEr : Nat → Int64} {wn : Int32} {mb : Int64} {lo hi er0 : Nat → Int64} {ch wd : Nat → Int32} {x : Int32 × Int32 × Int32 × (Nat → Int64)} {y : Int32 × Int32 × Int32 × (Nat → Int64) × (Nat → Int64) × (Nat → Int64)} (T : zTN cF cc cN inp nF nN stp mst prc al made amt op fx jn lets mF mN mNF mNN mS mM mC mW mCst mO m1 m2 mX mG mA mB) (R : zRN cN wn mb op made amt wd lo hi) (hw : wn = (-1) ∨ op wn.toNatClampNeg = 0 ∧ 0 ≤ mb.toInt ∧ mb.toInt ≤ 10000000) (C : zCh cN cF gof ch mTr) (h1 : fn_X7_reckon cF cN gof ch stp op made er0 amt lo hi mst al = some x) (h2 : fn_X12_passes wn mb mN mO m1 m2 mLe mA mB mGe mTr mS mEr mM mW = some y) : zPE cN lo hi x y := by
  obtain ⟨⟨f1, f2, f3⟩, ⟨n1, n2, n3⟩, hC, hz, hp, hI, hf, hn, hg⟩ := T
  have hs : ∀ f : Int32, 0 ≤ f → f < cF → 1 ≤ stp f.toNatClampNeg := fun f f0 f1 => (hf f f0 f1).2.2.2.2.1.1
  unfold fn_X7_reckon at h1
  unfold fn_X12_passes at h2
  rw [zn01.1, n1] at h2
  refine zl_ip3 (P := fun x y => zPE cN lo hi x y) (fun s t => t.1 = s.1 ∧ 0 ≤ s.1 ∧ s.1 ≤ cN ∧ s.2.1 = 0 ∧ t.2.1 = (-2) ∧ t.2.2.1 = 0 ∧ (∀ j : Int32, 0 ≤ j → j < s.1 → s.2.2 j.toNatClampNeg = t.2.2.2.2.2 j.toNatClampNeg ∧ t.2.2.2.1 j.toNatClampNeg = lo j.toNatClampNeg ∧ t.2.2.2.2.1 j.toNatClampNeg = hi j.toNatClampNeg ∧ (0 ≤ (s.2.2 j.toNatClampNeg).toInt ∧ (s.2.2 j.toNatClampNeg).toInt ≤ 1000000000) ∧ (-1000000000 ≤ (lo j.toNatClampNeg).toInt ∧ (lo j.toNatClampNeg).toInt ≤ 1000000000) ∧ (-1000000000 ≤ (hi j.toNatClampNeg).toInt ∧ (hi j.toNatClampNeg).toInt ≤ 1000000000))) ?_ _ _ _ _ _ _ ?_ h1 h2
  rotate_left
  · exact ⟨rfl, (show (0 : Int32) ≤ 0 by decide), n2, rfl, rfl, rfl, fun j j0 j1 => absurd j1 (by show ¬ j < 0; grind)⟩
  intro s t k1 k2 o1 o2 ⟨R1, R2, R3, R4, R5, R6, R7⟩ hb hx ho1 ho2
  obtain ⟨i, rs, er⟩ := s
  obtain ⟨k, fa, fw, le, ge, em⟩ := t
  dsimp only at R1 R2 R3 R4 R5 R6 R7 ho1 ho2
  subst R1 R4 R5 R6
  by_cases c : cN ≤ k
  · rw [if_pos c] at ho1 ho2
    rw [if_pos rfl] at ho2
    have e : k = cN := by grind
    subst e
    rw [← Option.some.inj ho1, ← Option.some.inj ho2]
    exact ⟨rfl, rfl, rfl, Or.inl ⟨rfl, rfl, rfl, R7⟩⟩
  · rw [if_neg c] at ho1 ho2
    rw [if_pos rfl] at ho2
    have hi' : 0 ≤ k ∧ k < cN := ⟨R2, by grind⟩
    have h14 : 0 ≤ k ∧ k < 14 := ⟨R2, by grind⟩
    have hn1 := hn k hi'.1 hi'.2
    obtain ⟨-, -, t1, t2⟩ := C k hi'.1 hi'.2
    obtain ⟨-, g2, g3, -, g5, g6, -⟩ := hf _ t1 t2
    have ok := zOk_of hn1
    obtain ⟨q1, q2, q3, q4, q5, q6, q7, q8, q9, q10, q11, q12, q13, q14, q15, q16, q17⟩ := hn k hi'.1 hi'.2
    obtain ⟨r1, r2, -⟩ := R k hi'.1 hi'.2
    -- the WHATS, in both
    have part : ∀ m : Int32, (-1) ≤ m → m < k → m = (-1) ∨ (0 ≤ m ∧ m < cN ∧ er m.toNatClampNeg = em m.toNatClampNeg ∧ le m.toNatClampNeg = lo m.toNatClampNeg ∧ ge m.toNatClampNeg = hi m.toNatClampNeg ∧ (0 ≤ (er m.toNatClampNeg).toInt ∧ (er m.toNatClampNeg).toInt ≤ 1000000000) ∧ (-1000000000 ≤ (lo m.toNatClampNeg).toInt ∧ (lo m.toNatClampNeg).toInt ≤ 1000000000) ∧ (-1000000000 ≤ (hi m.toNatClampNeg).toInt ∧ (hi m.toNatClampNeg).toInt ≤ 1000000000)) := by
      intro m m0 m1
      by_cases w : m = (-1)
      · exact Or.inl w
      · exact Or.inr ⟨by grind, by grind, R7 m (by grind) m1⟩
    have pa := part _ q12.1 q12.2
    have pb := part _ q13.1 q13.2
    have eown : ∀ m : Int32, 0 ≤ m → m < cN → (mS (mTr m.toNatClampNeg).toNatClampNeg).toInt64 = (stp (mTr m.toNatClampNeg).toNatClampNeg).toInt64 := fun m m0 m1 => by
      obtain ⟨-, -, u1, u2⟩ := C m m0 m1
      rw [(hf _ u1 u2).2.1]
    generalize hS : stp (mTr k.toNatClampNeg).toNatClampNeg = S at *
    have ha := zCe_b (a := amt (2 * k + 0).toNatClampNeg) (own := (stp (mTr (made (2 * k + 0).toNatClampNeg).toNatClampNeg).toNatClampNeg).toInt64) g5 (pa.imp id (fun q => q.2.2.2.2.2.1))
    have hb' := zCe_b (a := amt (2 * k + 1).toNatClampNeg) (own := (stp (mTr (made (2 * k + 1).toNatClampNeg).toNatClampNeg).toNatClampNeg).toInt64) g5 (pb.imp id (fun q => q.2.2.2.2.2.1))
    have hxx := zAw_b q14 (pa.imp id (fun q => q.2.2.2.2.2.2))
    have hyy := zAw_b q15 (pb.imp id (fun q => q.2.2.2.2.2.2))
    have eJ := zErJ (amt := amt) (er := er) (lo := lo) (hi := hi) n3 (Int32.le_refl _) f3 C hi' hs ok (fun _ a b x y ea eb ex ey => by
      have v := zV_b (a := a) (b := b) (x := x) (y := y) (by rw [ea, hS]; exact ha) (by rw [eb, hS]; exact hb') (by rw [ex]; exact hxx) (by rw [ey]; exact hyy)
      exact ⟨v.1, by have := v.2; omega⟩)
    rw [hS] at eJ
    rw [eJ, zb_some] at ho1
    have bE := zEr_b (p := op k.toNatClampNeg) g5 ha hb' hxx hyy
    generalize hE : zEr (op k.toNatClampNeg) S.toInt64 (zCe S.toInt64 (made (2 * k + 0).toNatClampNeg) (amt (2 * k + 0).toNatClampNeg) (stp (mTr (made (2 * k + 0).toNatClampNeg).toNatClampNeg).toNatClampNeg).toInt64 (er (made (2 * k + 0).toNatClampNeg).toNatClampNeg)) (zCe S.toInt64 (made (2 * k + 1).toNatClampNeg) (amt (2 * k + 1).toNatClampNeg) (stp (mTr (made (2 * k + 1).toNatClampNeg).toNatClampNeg).toNatClampNeg).toInt64 (er (made (2 * k + 1).toNatClampNeg).toNatClampNeg)) (zAw (made (2 * k + 0).toNatClampNeg) (amt (2 * k + 0).toNatClampNeg) lo hi) (zAw (made (2 * k + 1).toNatClampNeg) (amt (2 * k + 1).toNatClampNeg) lo hi) = E at ho1 bE
    obtain ⟨-, ho1⟩ := zg_s ho1
    rw [zFmtOf n3 C hi', zb_some, zMstOf f3 ⟨t1, t2⟩, zb_some, zAmtOf h14, zb_some] at ho1
    have eE1 : vp_updL er k.toNatClampNeg E k.toNatClampNeg = E := by rw [zupL R2 R2, if_pos rfl]
    rw [eE1] at ho1
    simp only [zn, zj] at ho1
    -- the reference's line
    obtain ⟨u, hu, ho2⟩ := zb_s ho2
    obtain ⟨em', hem, ho2⟩ := zb_s ho2
    obtain ⟨am, ham, ho2⟩ := zb_s ho2
    have hu := zLaysR hn1 hu
    have hem := zErM hn1 hem
    have ham := zMostM ham
    obtain ⟨-, ho2⟩ := zg_s ho2
    obtain ⟨-, ho2⟩ := zg_s ho2
    obtain ⟨l1, l2⟩ := zLw_c (i := k) (op := op) (amt := amt) (made := made) (lo' := le) (hi' := ge) (lo := lo) (hi := hi) (pa.imp id (fun q => ⟨q.2.2.2.1, q.2.2.2.2.1⟩)) (pb.imp id (fun q => ⟨q.2.2.2.1, q.2.2.2.2.1⟩))
    rw [l1, l2] at hu
    have emore : (if k = wn ∧ op k.toNatClampNeg = 0 then mb else 0) = (if k = wn then mb else 0) := by
      by_cases w : k = wn
      · have : op k.toNatClampNeg = 0 := by
          rcases hw with v | v
          · rw [w, v] at R2; exact absurd R2 (by decide)
          · rw [w]; exact v.1
        rw [if_pos ⟨w, this⟩, if_pos w]
      · rw [if_neg w, if_neg (fun q => w q.1)]
    rw [emore] at hu
    have bmore : 0 ≤ (if k = wn then mb else (0 : Int64)).toInt ∧ (if k = wn then mb else (0 : Int64)).toInt ≤ 10000000 := by
      by_cases w : k = wn
      · rw [if_pos w]
        rcases hw with v | v
        · rw [w, v] at R2; exact absurd R2 (by decide)
        · exact v.2
      · rw [if_neg w, zl0]; omega
    have i64 : ∀ x : Int64, -1000000000 ≤ x.toInt ∧ x.toInt ≤ 1000000000 → -1000000000 ≤ x ∧ x ≤ 1000000000 := fun x hx => ⟨Int64.le_iff_toInt_le.mpr (by rw [show (-1000000000 : Int64).toInt = -1000000000 by decide +kernel]; exact hx.1), Int64.le_iff_toInt_le.mpr (by rw [show (1000000000 : Int64).toInt = 1000000000 by decide +kernel]; exact hx.2)⟩
    have bb := zLw_r hn1 (lo := lo) (hi := hi) (pa.imp id (fun q => ⟨i64 _ q.2.2.2.2.2.2.1, i64 _ q.2.2.2.2.2.2.2⟩)) (pb.imp id (fun q => ⟨i64 _ q.2.2.2.2.2.2.1, i64 _ q.2.2.2.2.2.2.2⟩))
    generalize (if k = wn then mb else (0 : Int64)) = more at hu r1 r2 bmore
    generalize hL : zLw k op made amt lo hi - more = L at hu r1
    generalize hH : zHg k op made amt lo hi + more = H at hu r2
    have e5 : (5000000000000000 : Int64).toInt = 5000000000000000 := by decide +kernel
    have e5' : (-5000000000000000 : Int64).toInt = -5000000000000000 := by decide +kernel
    have bl : -6000000000000000 ≤ L.toInt ∧ L.toInt ≤ 6000000000000000 := by
      have w1 := Int64.le_iff_toInt_le.mp bb.1.1
      have w2 := Int64.le_iff_toInt_le.mp bb.1.2
      rw [e5'] at w1
      rw [e5] at w2
      have := zoL_sub hL.symm rfl rfl (by omega)
      omega
    have bh : -6000000000000000 ≤ H.toInt ∧ H.toInt ≤ 6000000000000000 := by
      have w1 := Int64.le_iff_toInt_le.mp bb.2.1
      have w2 := Int64.le_iff_toInt_le.mp bb.2.2
      rw [e5'] at w1
      rw [e5] at w2
      have := zoL_add hH.symm rfl rfl (by omega)
      omega
    have eu1 : u.1 k.toNatClampNeg = L := by rw [hu]; show vp_updL le k.toNatClampNeg L k.toNatClampNeg = L; rw [zupL R2 R2, if_pos rfl]
    have eu2 : u.2 k.toNatClampNeg = H := by rw [hu]; show vp_updL ge k.toNatClampNeg H k.toNatClampNeg = H; rw [zupL R2 R2, if_pos rfl]
    have ejlt : ∀ j : Int32, 0 ≤ j → j < k → u.1 j.toNatClampNeg = le j.toNatClampNeg ∧ u.2 j.toNatClampNeg = ge j.toNatClampNeg := fun j j0 j1 => by
      rw [hu]
      exact ⟨by show vp_updL le k.toNatClampNeg L j.toNatClampNeg = _; rw [zupL R2 j0, if_neg (by grind)], by show vp_updL ge k.toNatClampNeg H j.toNatClampNeg = _; rw [zupL R2 j0, if_neg (by grind)]⟩
    have val : ∀ (m a : Int32), (-1) ≤ m → m < k → zAw m a u.1 u.2 = zAw m a lo hi := fun m a m0 m1 => by
      rcases part m m0 m1 with w | ⟨w0, _, _, w1, w2, _⟩
      · unfold zAw; rw [zVal_c (lo' := u.1) (lo := lo) (Or.inl w), zVal_c (lo' := u.2) (lo := hi) (Or.inl w)]
      · unfold zAw
        rw [zVal_c (lo' := u.1) (lo := lo) (Or.inr ((ejlt m w0 m1).1.trans w1)), zVal_c (lo' := u.2) (lo := hi) (Or.inr ((ejlt m w0 m1).2.trans w2))]
    have eS : mS (mTr k.toNatClampNeg).toNatClampNeg = S := by rw [← hS]; exact (hf _ t1 t2).2.1.symm
    have eem : em' = vp_updL em k.toNatClampNeg E := by
      rw [hem, eS, val _ _ q12.1 q12.2, val _ _ q13.1 q13.2, zCe_c (own := (stp (mTr (made (2 * k + 0).toNatClampNeg).toNatClampNeg).toNatClampNeg).toInt64) (e := er (made (2 * k + 0).toNatClampNeg).toNatClampNeg) (pa.imp id (fun q => ⟨eown _ q.1 q.2.1, q.2.2.1.symm⟩)), zCe_c (own := (stp (mTr (made (2 * k + 1).toNatClampNeg).toNatClampNeg).toNatClampNeg).toInt64) (e := er (made (2 * k + 1).toNatClampNeg).toNatClampNeg) (pb.imp id (fun q => ⟨eown _ q.1 q.2.1, q.2.2.1.symm⟩)), hE]
    have eE2 : em' k.toNatClampNeg = E := by rw [eem, zupL R2 R2, if_pos rfl]
    rw [eE2] at ho2
    rw [eu1, eu2] at ham
    have gM : (mM (mTr k.toNatClampNeg).toNatClampNeg) = mst (mTr k.toNatClampNeg).toNatClampNeg := g3.symm
    rw [gM] at ho2
    have bM : (mst (mTr k.toNatClampNeg).toNatClampNeg).toInt ≤ 1000000000 := by
      have := Int32.le_iff_toInt_le.mp g6.2
      rw [show (1000000000 : Int32).toInt = 1000000000 by decide +kernel] at this
      exact this
    obtain ⟨am1, am2⟩ := zAm_eq (M := mst (mTr k.toNatClampNeg).toNatClampNeg) bl bh bE bM
    rw [← r1, ← r2, ← ham] at am1
    rw [← ham] at am2
    -- where it fails here
    have erq : ∀ j : Int32, 0 ≤ j → j ≤ k → vp_updL er k.toNatClampNeg E j.toNatClampNeg = em' j.toNatClampNeg := by
      intro j j0 j1
      rw [eem, zupL R2 j0, zupL R2 j0]
      by_cases w : j = k
      · rw [if_pos w, if_pos w]
      · rw [if_neg w, if_neg w]; exact (R7 j j0 (by grind)).1
    have fail : ∀ (v : Int32), (v = 1 ∨ v = 2) → some ((0 : Int32), k, v, vp_updL er k.toNatClampNeg E) = some o1 → k2 (k + 1, k, v, u.1, u.2, em') = some o2 → zPE cN lo hi o1 o2 := by
      intro v hv w1 w2
      have v0 : ¬ v = 0 := by rcases hv with rfl | rfl <;> decide
      obtain ⟨k3, w3⟩ := hx _ _ w2
      try dsimp only at w3
      rw [if_neg v0] at w3
      have w4 : o2 = (0, k, v, u.1, u.2, em') := by
        by_cases z : cN ≤ k + 1
        · rw [if_pos z] at w3; exact (Option.some.inj w3).symm
        · rw [if_neg z, if_neg v0] at w3; exact (Option.some.inj w3).symm
      rw [← Option.some.inj w1, w4]
      exact ⟨rfl, rfl, rfl, Or.inr ⟨rfl, R2, hi'.2, hv, erq⟩⟩
    by_cases d : am + E ≤ (mst (mTr k.toNatClampNeg).toNatClampNeg).toInt64
    · rw [if_pos ((lg_cmp_le _ _).mpr (am1.mpr d)), zIsAns n3 hi', zb_some] at ho1
      rw [if_pos ((lg_cmp_le _ _).mpr d)] at ho2
      obtain ⟨-, ho2⟩ := zg_s ho2
      obtain ⟨y1, y2, y3, y4, y5⟩ := am2 d
      have go : k1 (k + 1, 0, vp_updL er k.toNatClampNeg E) = some o1 → k2 (k + 1, -2, 0, u.1, u.2, em') = some o2 → zPE cN lo hi o1 o2 := by
        intro w1 w2
        refine hb _ _ _ _ ?_ w1 w2
        refine ⟨rfl, (show 0 ≤ k + 1 by grind), (show k + 1 ≤ cN by grind), rfl, rfl, rfl, fun j j0 j1 => ?_⟩
        have j1 : j < k + 1 := j1
        show vp_updL er k.toNatClampNeg E j.toNatClampNeg = em' j.toNatClampNeg ∧ u.1 j.toNatClampNeg = lo j.toNatClampNeg ∧ u.2 j.toNatClampNeg = hi j.toNatClampNeg ∧ (0 ≤ (vp_updL er k.toNatClampNeg E j.toNatClampNeg).toInt ∧ (vp_updL er k.toNatClampNeg E j.toNatClampNeg).toInt ≤ 1000000000) ∧ _ ∧ _
        refine ⟨erq j j0 (by grind), ?_⟩
        by_cases w : j = k
        · subst w
          rw [eu1, eu2, zupL R2 j0, if_pos rfl, r1, r2, y1, y2]
          exact ⟨rfl, rfl, ⟨bE.1, y5⟩, y3, y4⟩
        · have lt : j < k := by grind
          rw [(ejlt j j0 lt).1, (ejlt j j0 lt).2, zupL R2 j0, if_neg w]
          exact (R7 j j0 lt).2
      rw [q4] at ho1
      have e00 : (0 : Int32) ≤ 0 := by decide
      have e10 : ¬ (1 : Int32) = 0 := by decide
      by_cases e : mW k.toNatClampNeg = (-1)
      · rw [if_pos e, if_pos rfl, if_pos trivial] at ho1
        rw [if_pos e, if_pos e00] at ho2
        exact go ho1 ho2
      · rw [if_neg e, if_neg e10] at ho1
        rw [if_neg e] at ho2
        by_cases w : E ≤ (mW k.toNatClampNeg).toInt64
        · rw [if_pos ((lg_cmp_le _ _).mpr w), if_pos trivial] at ho1
          rw [if_pos ((lg_cmp_le _ _).mpr w), if_pos e00] at ho2
          exact go ho1 ho2
        · rw [if_neg (fun q => w ((lg_cmp_le _ _).mp q)), if_neg (by decide)] at ho1
          rw [if_neg (fun q => w ((lg_cmp_le _ _).mp q))] at ho2
          exact fail 2 (Or.inr rfl) ho1 ho2
    · rw [if_neg (fun q => d (am1.mp ((lg_cmp_le _ _).mp q))), if_neg (by decide)] at ho1
      rw [if_neg (fun q => d ((lg_cmp_le _ _).mp q))] at ho2
      exact fail 1 (Or.inl rfl) ho1 ho2

