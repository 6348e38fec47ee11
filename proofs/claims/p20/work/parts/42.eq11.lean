/-! the sign behind a STATEMENT -/
set_option maxRecDepth 100000 in
noncomputable def zJ5 (n : Int32) (f own : Nat → Int32) (s_20 : Int32 × Int32 × Int32 × Int32 × Int32 × Int32 × Int32 × Int32 × Int32 × Int32 × Int32 × Int32 × Int32 × (Nat → Int32) × (Nat → Int32) × (Nat → Int32) × (Nat → Int32) × (Nat → Int32) × (Nat → Int32) × (Nat → Int32) × (Nat → Int32) × (Nat → Int32) × (Nat → Int32) × (Nat → Int32) × (Nat → Int32)) : Option (Int32 × Int32 × Int32 × Int32 × Int32 × Int32 × Int32 × Int32 × Int32 × Int32 × Int32 × Int32 × Int32 × (Nat → Int32) × (Nat → Int32) × (Nat → Int32) × (Nat → Int32) × (Nat → Int32) × (Nat → Int32) × (Nat → Int32) × (Nat → Int32) × (Nat → Int32) × (Nat → Int32) × (Nat → Int32) × (Nat → Int32)) := (if s_20.1 = 0 then (some ((0 : Int32), s_20.2.1, s_20.2.2.1, s_20.2.2.2.1, s_20.2.2.2.2.2.2.1, s_20.2.2.2.2.2.2.2.1, s_20.2.2.2.2.2.2.2.2.1, s_20.2.2.2.2.2.2.2.2.2.1, s_20.2.2.2.2.2.2.2.2.2.2.1, s_20.2.2.2.2.1, s_20.2.2.2.2.2.1, s_20.2.2.2.2.2.2.2.2.2.2.2.1, s_20.2.2.2.2.2.2.2.2.2.2.2.2.1, s_20.2.2.2.2.2.2.2.2.2.2.2.2.2.1, s_20.2.2.2.2.2.2.2.2.2.2.2.2.2.2.2.2.2.1, s_20.2.2.2.2.2.2.2.2.2.2.2.2.2.2.1, s_20.2.2.2.2.2.2.2.2.2.2.2.2.2.2.2.1, s_20.2.2.2.2.2.2.2.2.2.2.2.2.2.2.2.2.1, s_20.2.2.2.2.2.2.2.2.2.2.2.2.2.2.2.2.2.2.2.2.1, s_20.2.2.2.2.2.2.2.2.2.2.2.2.2.2.2.2.2.2.2.2.2.2.2.1, s_20.2.2.2.2.2.2.2.2.2.2.2.2.2.2.2.2.2.2.2.2.2.2.2.2, s_20.2.2.2.2.2.2.2.2.2.2.2.2.2.2.2.2.2.2.1, s_20.2.2.2.2.2.2.2.2.2.2.2.2.2.2.2.2.2.2.2.1, s_20.2.2.2.2.2.2.2.2.2.2.2.2.2.2.2.2.2.2.2.2.2.2.1, s_20.2.2.2.2.2.2.2.2.2.2.2.2.2.2.2.2.2.2.2.2.2.1)) else (zb (fn_X5_readSign 59 s_20.2.2.1 s_20.2.2.2.1 n s_20.2.2.2.2.2.2.1 s_20.2.2.2.2.2.2.2.1 s_20.2.2.2.2.2.2.2.2.1 s_20.2.2.2.2.2.2.2.2.2.1 s_20.2.2.2.2.2.2.2.2.2.2.1 f own) (fun o_22 => (if o_22.1 = 0 then (some ((0 : Int32), s_20.2.1, o_22.2.1, o_22.2.2.1, o_22.2.2.2.1, o_22.2.2.2.2.1, o_22.2.2.2.2.2.1, o_22.2.2.2.2.2.2.1, o_22.2.2.2.2.2.2.2, s_20.2.2.2.2.1, s_20.2.2.2.2.2.1, s_20.2.2.2.2.2.2.2.2.2.2.2.1, s_20.2.2.2.2.2.2.2.2.2.2.2.2.1, s_20.2.2.2.2.2.2.2.2.2.2.2.2.2.1, s_20.2.2.2.2.2.2.2.2.2.2.2.2.2.2.2.2.2.1, s_20.2.2.2.2.2.2.2.2.2.2.2.2.2.2.1, s_20.2.2.2.2.2.2.2.2.2.2.2.2.2.2.2.1, s_20.2.2.2.2.2.2.2.2.2.2.2.2.2.2.2.2.1, s_20.2.2.2.2.2.2.2.2.2.2.2.2.2.2.2.2.2.2.2.2.1, s_20.2.2.2.2.2.2.2.2.2.2.2.2.2.2.2.2.2.2.2.2.2.2.2.1, s_20.2.2.2.2.2.2.2.2.2.2.2.2.2.2.2.2.2.2.2.2.2.2.2.2, s_20.2.2.2.2.2.2.2.2.2.2.2.2.2.2.2.2.2.2.1, s_20.2.2.2.2.2.2.2.2.2.2.2.2.2.2.2.2.2.2.2.1, s_20.2.2.2.2.2.2.2.2.2.2.2.2.2.2.2.2.2.2.2.2.2.2.1, s_20.2.2.2.2.2.2.2.2.2.2.2.2.2.2.2.2.2.2.2.2.2.1)) else (some ((1 : Int32), s_20.2.1, o_22.2.1, o_22.2.2.1, o_22.2.2.2.1, o_22.2.2.2.2.1, o_22.2.2.2.2.2.1, o_22.2.2.2.2.2.2.1, o_22.2.2.2.2.2.2.2, s_20.2.2.2.2.1, s_20.2.2.2.2.2.1, s_20.2.2.2.2.2.2.2.2.2.2.2.1, s_20.2.2.2.2.2.2.2.2.2.2.2.2.1, s_20.2.2.2.2.2.2.2.2.2.2.2.2.2.1, s_20.2.2.2.2.2.2.2.2.2.2.2.2.2.2.2.2.2.1, s_20.2.2.2.2.2.2.2.2.2.2.2.2.2.2.1, s_20.2.2.2.2.2.2.2.2.2.2.2.2.2.2.2.1, s_20.2.2.2.2.2.2.2.2.2.2.2.2.2.2.2.2.1, s_20.2.2.2.2.2.2.2.2.2.2.2.2.2.2.2.2.2.2.2.2.1, s_20.2.2.2.2.2.2.2.2.2.2.2.2.2.2.2.2.2.2.2.2.2.2.2.1, s_20.2.2.2.2.2.2.2.2.2.2.2.2.2.2.2.2.2.2.2.2.2.2.2.2, s_20.2.2.2.2.2.2.2.2.2.2.2.2.2.2.2.2.2.2.1, s_20.2.2.2.2.2.2.2.2.2.2.2.2.2.2.2.2.2.2.2.1, s_20.2.2.2.2.2.2.2.2.2.2.2.2.2.2.2.2.2.2.2.2.2.2.1, s_20.2.2.2.2.2.2.2.2.2.2.2.2.2.2.2.2.2.2.2.2.2.1))))))
theorem zSemi {n a e k s v o got fk fp wa : Int32} {f g own : Nat → Int32} {cF cc cN inp : Int32} {nF nN stp mst prc al made amt op fx jn lets : Nat → Int32} (hn : n ≤ 1200) (ha : 0 ≤ a ∧ a ≤ n) (ht : zTp f g) (ho : ∀ w : Nat, w < 13 → own w = zOwT w) (T : zTok n f g a e k s v o) :
    zw (zJ5 n f own (1, got, fk, fp, cF, cc, e, k, s, v, o, cN, inp, nF, stp, mst, prc, nN, op, fx, al, lets, jn, made, amt)) (fun r => zw (fn_X12_mark 59 n a 0 wa g) (fun q => (∃ y, r = (1, got, fk, fp, y.1, y.2.1, y.2.2.1, y.2.2.2.1, y.2.2.2.2, cF, cc, cN, inp, nF, nN, stp, mst, prc, al, made, amt, op, fx, jn, lets) ∧ q = (e, 0, wa) ∧ zNext n f g e y) ∨ zStop r.1 r.2.2.1 r.2.2.2.1 q.2.1 q.2.2)) := by
  unfold zJ5
  dsimp only
  rw [if_neg (by decide)]
  refine zw_zb0 (zSignR (wa := wa) hn ha ht ho T ⟨by decide +kernel, by decide, by decide⟩) (fun r hr => ?_)
  obtain ⟨q, eq, hq⟩ := hr
  rcases hq with ⟨y, rfl, rfl, hy⟩ | hs
  · dsimp only
    rw [if_neg (by decide)]
    exact zw_some ⟨_, eq, Or.inl ⟨y, rfl, rfl, hy⟩⟩
  · rw [if_pos hs.1]
    exact zw_some ⟨_, eq, Or.inr ⟨rfl, hs.2⟩⟩
theorem zSemi_0 {n : Int32} {f own : Nat → Int32} {s_20 : Int32 × Int32 × Int32 × Int32 × Int32 × Int32 × Int32 × Int32 × Int32 × Int32 × Int32 × Int32 × Int32 × (Nat → Int32) × (Nat → Int32) × (Nat → Int32) × (Nat → Int32) × (Nat → Int32) × (Nat → Int32) × (Nat → Int32) × (Nat → Int32) × (Nat → Int32) × (Nat → Int32) × (Nat → Int32) × (Nat → Int32)} (h : s_20.1 = 0) : zw (zJ5 n f own s_20) (fun r => r.1 = 0 ∧ r.2.2.1 = s_20.2.2.1 ∧ r.2.2.2.1 = s_20.2.2.2.1) := by
  unfold zJ5
  rw [if_pos h]
  exact zw_some ⟨rfl, rfl, rfl⟩
noncomputable def zSR (n : Int32) (f g : Nat → Int32) (fk fp wa : Int32) (mF mN mNF mNN mS mM mC mW mCst mO m1 m2 mX mG : Nat → Int32) (mA mB : Nat → Int64) (r : Int32 × Int32 × Int32 × Int32 × Int32 × Int32 × Int32 × Int32 × Int32 × Int32 × Int32 × Int32 × Int32 × (Nat → Int32) × (Nat → Int32) × (Nat → Int32) × (Nat → Int32) × (Nat → Int32) × (Nat → Int32) × (Nat → Int32) × (Nat → Int32) × (Nat → Int32) × (Nat → Int32) × (Nat → Int32) × (Nat → Int32)) (q : Int64 × Int32 × Int32 × Int32 × Int32 × (Nat → Int32) × (Nat → Int32) × (Nat → Int32) × (Nat → Int32) × (Nat → Int32) × (Nat → Int32) × (Nat → Int32) × (Nat → Int32) × (Nat → Int32) × (Nat → Int32) × (Nat → Int32) × (Nat → Int32) × (Nat → Int32) × (Nat → Int32) × (Nat → Int64) × (Nat → Int64)) : Prop := (∃ g' y z b' wv C M, r = (1, g', fk, fp, y.1, y.2.1, y.2.2.1, y.2.2.2.1, y.2.2.2.2, C) ∧ q = (wv, z, b', 0, wa, M) ∧ zNext n f g z y ∧ zTS C.1 C.2.1 C.2.2.1 C.2.2.2.1 C.2.2.2.2.1 C.2.2.2.2.2.1 C.2.2.2.2.2.2.1 C.2.2.2.2.2.2.2.1 C.2.2.2.2.2.2.2.2.1 C.2.2.2.2.2.2.2.2.2.1 C.2.2.2.2.2.2.2.2.2.2.1 C.2.2.2.2.2.2.2.2.2.2.2.1 C.2.2.2.2.2.2.2.2.2.2.2.2.1 C.2.2.2.2.2.2.2.2.2.2.2.2.2.1 C.2.2.2.2.2.2.2.2.2.2.2.2.2.2.1 C.2.2.2.2.2.2.2.2.2.2.2.2.2.2.2 M.1 M.2.1 M.2.2.1 M.2.2.2.1 M.2.2.2.2.1 M.2.2.2.2.2.1 M.2.2.2.2.2.2.1 M.2.2.2.2.2.2.2.1 M.2.2.2.2.2.2.2.2.1 M.2.2.2.2.2.2.2.2.2.1 M.2.2.2.2.2.2.2.2.2.2.1 M.2.2.2.2.2.2.2.2.2.2.2.1 M.2.2.2.2.2.2.2.2.2.2.2.2.1 M.2.2.2.2.2.2.2.2.2.2.2.2.2.1 M.2.2.2.2.2.2.2.2.2.2.2.2.2.2.1 M.2.2.2.2.2.2.2.2.2.2.2.2.2.2.2 ∧ zFR mF mN mNF mNN mS mM mC mW mCst mO m1 m2 mX mG mA mB M.1 M.2.1 M.2.2.1 M.2.2.2.1 M.2.2.2.2.1 M.2.2.2.2.2.1 M.2.2.2.2.2.2.1 M.2.2.2.2.2.2.2.1 M.2.2.2.2.2.2.2.2.1 M.2.2.2.2.2.2.2.2.2.1 M.2.2.2.2.2.2.2.2.2.2.1 M.2.2.2.2.2.2.2.2.2.2.2.1 M.2.2.2.2.2.2.2.2.2.2.2.2.1 M.2.2.2.2.2.2.2.2.2.2.2.2.2.1 M.2.2.2.2.2.2.2.2.2.2.2.2.2.2.1 M.2.2.2.2.2.2.2.2.2.2.2.2.2.2.2) ∨ zStop r.1 r.2.2.1 r.2.2.2.1 q.2.2.2.1 q.2.2.2.2.1 ∧ zFR mF mN mNF mNN mS mM mC mW mCst mO m1 m2 mX mG mA mB q.2.2.2.2.2.1 q.2.2.2.2.2.2.1 q.2.2.2.2.2.2.2.1 q.2.2.2.2.2.2.2.2.1 q.2.2.2.2.2.2.2.2.2.1 q.2.2.2.2.2.2.2.2.2.2.1 q.2.2.2.2.2.2.2.2.2.2.2.1 q.2.2.2.2.2.2.2.2.2.2.2.2.1 q.2.2.2.2.2.2.2.2.2.2.2.2.2.1 q.2.2.2.2.2.2.2.2.2.2.2.2.2.2.1 q.2.2.2.2.2.2.2.2.2.2.2.2.2.2.2.1 q.2.2.2.2.2.2.2.2.2.2.2.2.2.2.2.2.1 q.2.2.2.2.2.2.2.2.2.2.2.2.2.2.2.2.2.1 q.2.2.2.2.2.2.2.2.2.2.2.2.2.2.2.2.2.2.1 q.2.2.2.2.2.2.2.2.2.2.2.2.2.2.2.2.2.2.2.1 q.2.2.2.2.2.2.2.2.2.2.2.2.2.2.2.2.2.2.2.2
-- the kinds of STATEMENT
set_option maxRecDepth 100000 in
theorem zSt_fmt {n a e k s v o got fk fp bg wa : Int32} {wv0 : Int64} {f g own tab : Nat → Int32} {cF cc cN inp : Int32} {nF nN stp mst prc al made amt op fx jn lets : Nat → Int32} {mF mN mNF mNN mS mM mC mW mCst mO m1 m2 mX mG : Nat → Int32} {mA mB : Nat → Int64} (hn : n ≤ 1200) (ha : 0 ≤ a ∧ a ≤ n) (ht : zTp f g) (ho : ∀ w : Nat, w < 13 → own w = zOwT w) (hT : (∀ k : Nat, k < 71 → tab k = zTab k)) (T : zTok n f g a e k s v o) (h : zTS cF cc cN inp nF nN stp mst prc al made amt op fx jn lets mF mN mNF mNN mS mM mC mW mCst mO m1 m2 mX mG mA mB) (hc : cF < 4) :
    zw (zb (fn_X5_readFormat got fk fp n e k s v o cF nF cN nN f own stp mst prc) (fun o_1 => (zJ5 n f own (o_1.1, o_1.2.1, o_1.2.2.1, o_1.2.2.2.1, o_1.2.2.2.2.2.2.2.2.2.1, cc, o_1.2.2.2.2.1, o_1.2.2.2.2.2.1, o_1.2.2.2.2.2.2.1, o_1.2.2.2.2.2.2.2.1, o_1.2.2.2.2.2.2.2.2.1, cN, inp, o_1.2.2.2.2.2.2.2.2.2.2.1, o_1.2.2.2.2.2.2.2.2.2.2.2.1, o_1.2.2.2.2.2.2.2.2.2.2.2.2.1, o_1.2.2.2.2.2.2.2.2.2.2.2.2.2, nN, op, fx, al, lets, jn, made, amt)))) (fun r => zw (zb (fn_X12_readsFormat n a bg 0 wa 1 g tab mF mNF mN mNN mS mM mC) (fun o_1 => (zb (fn_X12_mark 59 n o_1.1 o_1.2.2.1 o_1.2.2.2.1 g) (fun o_2 => (some (wv0, o_2.1, o_1.2.1, o_2.2.1, o_2.2.2, o_1.2.2.2.2.1, mN, o_1.2.2.2.2.2.1, mNN, o_1.2.2.2.2.2.2.1, o_1.2.2.2.2.2.2.2.1, o_1.2.2.2.2.2.2.2.2, mW, mCst, mO, m1, m2, mX, mG, mA, mB)))))) (fun q => zSR n f g fk fp wa mF mN mNF mNN mS mM mC mW mCst mO m1 m2 mX mG mA mB r q)) := by
  have h0 := h
  obtain ⟨hF, hN, hC, hI, hfm, hnu, hgr⟩ := h
  obtain ⟨r1, hr1, q1, hq1, h1⟩ := zFormat (got := got) (fk := fk) (fp := fp) (bg := bg) (wa := wa) (stp := stp) (mst := mst) (prc := prc) (mS := mS) (mM := mM) (mC := mC) hn ha ht ho hT T ⟨hF.1, hF.2.1, hc⟩ hN (zNR_F hfm) (zNR_N hnu)
  rw [hr1, hq1]
  simp only [zb_some]
  rcases h1 with ⟨g', e', k', s', v', o', z, b', c, m, x1, x2, x3, rfl, rfl, hnm, h1, h2, h3, ha1, T1⟩ | ⟨hs, hrow⟩
  · dsimp only at ha1 T1 ⊢
    obtain ⟨u1, u2⟩ := zTS_fmt h0 hc hnm h1 h2 h3
    obtain ⟨r2, hr2, q2, hq2, h2⟩ := zSemi (got := g') (fk := fk) (fp := fp) (wa := wa) hn ha1 ht ho T1
    rw [hr2, hq2]
    simp only [zb_some]
    rcases h2 with ⟨y', rfl, rfl, hy⟩ | hs
    · exact zw_some (zw_some (Or.inl ⟨_, y', _, _, _, _, _, rfl, rfl, hy, u1, u2⟩))
    · exact zw_some (zw_some (Or.inr ⟨hs, u2⟩))
  · obtain ⟨r2, hr2, h2, h3, h4⟩ := zSemi_0 (n := n) (f := f) (own := own) (s_20 := (r1.1, r1.2.1, r1.2.2.1, r1.2.2.2.1, r1.2.2.2.2.2.2.2.2.2.1, cc, r1.2.2.2.2.1, r1.2.2.2.2.2.1, r1.2.2.2.2.2.2.1, r1.2.2.2.2.2.2.2.1, r1.2.2.2.2.2.2.2.2.1, cN, inp, r1.2.2.2.2.2.2.2.2.2.2.1, r1.2.2.2.2.2.2.2.2.2.2.2.1, r1.2.2.2.2.2.2.2.2.2.2.2.2.1, r1.2.2.2.2.2.2.2.2.2.2.2.2.2, nN, op, fx, al, lets, jn, made, amt)) hs.1
    rw [hr2]
    rw [zMark_n hs.2.1]
    simp only [zb_some]
    refine zw_some (zw_some (Or.inr ⟨⟨h2, hs.2.1, h3.trans hs.2.2.1, h4.trans hs.2.2.2⟩, ?_⟩))
    have hrow := hrow
    have e0 := congrArg (fun t => t.1) hrow
    have e1 := congrArg (fun t => t.2.1) hrow
    have e2 := congrArg (fun t => t.2.2.1) hrow
    have e3 := congrArg (fun t => t.2.2.2.1) hrow
    have e4 := congrArg (fun t => t.2.2.2.2) hrow
    dsimp only at e0 e1 e2 e3 e4 ⊢
    rw [e0, e1, e2, e3, e4]
    exact zFR_rf
set_option maxRecDepth 100000 in
theorem zSt_cst {n a e k s v o got fk fp bg wa : Int32} {wv0 : Int64} {f g own tab : Nat → Int32} {cF cc cN inp : Int32} {nF nN stp mst prc al made amt op fx jn lets : Nat → Int32} {mF mN mNF mNN mS mM mC mW mCst mO m1 m2 mX mG : Nat → Int32} {mA mB : Nat → Int64} (hn : n ≤ 1200) (ha : 0 ≤ a ∧ a ≤ n) (ht : zTp f g) (ho : ∀ w : Nat, w < 13 → own w = zOwT w) (hT : (∀ k : Nat, k < 71 → tab k = zTab k)) (T : zTok n f g a e k s v o) (h : zTS cF cc cN inp nF nN stp mst prc al made amt op fx jn lets mF mN mNF mNN mS mM mC mW mCst mO m1 m2 mX mG mA mB) :
    zw (zb (fn_X5_readCast got fk fp n e k s v o f own cc) (fun o_1 => (zJ5 n f own (o_1.1, o_1.2.1, o_1.2.2.1, o_1.2.2.2.1, cF, o_1.2.2.2.2.2.2.2.2.2, o_1.2.2.2.2.1, o_1.2.2.2.2.2.1, o_1.2.2.2.2.2.2.1, o_1.2.2.2.2.2.2.2.1, o_1.2.2.2.2.2.2.2.2.1, cN, inp, nF, stp, mst, prc, nN, op, fx, al, lets, jn, made, amt)))) (fun r => zw (zb (fn_X12_number (0 : Int64) (999 : Int64) n a bg 0 wa g) (fun o_1 => (zb (fn_X12_goesWell o_1.2.2.2.1) (fun o_67 => (if o_67 = 0 then (zg 1 2 (zb (fn_X12_mark 59 n o_1.2.1 o_1.2.2.2.1 o_1.2.2.2.2 g) (fun o_2 => (some (wv0, o_2.1, o_1.2.2.1, o_2.2.1, o_2.2.2, mF, mN, mNF, mNN, mS, mM, mC, mW, (upd mCst (1 : Int32).toNatClampNeg (mCst (1 : Int32).toNatClampNeg)), mO, m1, m2, mX, mG, mA, mB))))) else (zg 1 2 (zb (fn_X12_mark 59 n o_1.2.1 o_1.2.2.2.1 o_1.2.2.2.2 g) (fun o_2 => (some (wv0, o_2.1, o_1.2.2.1, o_2.2.1, o_2.2.2, mF, mN, mNF, mNN, mS, mM, mC, mW, (upd mCst (1 : Int32).toNatClampNeg o_1.1.toInt32), mO, m1, m2, mX, mG, mA, mB)))))))))) (fun q => zSR n f g fk fp wa mF mN mNF mNN mS mM mC mW mCst mO m1 m2 mX mG mA mB r q)) := by
  have h0 := h
  obtain ⟨hF, hN, hC, hI, hfm, hnu, hgr⟩ := h
  unfold fn_X5_readCast
  obtain ⟨r1, hr1, q1, hq1, h1⟩ := zNumR (lo := 0) (hi := 999) (got := got) (fk := fk) (fp := fp) (bg := bg) (wa := wa) (lo64 := 0) (hi64 := 999) (by decide +kernel) (by decide +kernel) hn ha ht ho T
  rw [hr1, hq1]
  simp only [zb_some]
  have hg2 : ∀ {ρ : Type} (e : Option ρ), zg 1 2 e = e := fun e => zg_in 2 (by decide +kernel) ⟨by decide, by decide⟩ e
  rcases h1 with ⟨y, rfl, rfl, l1, l2, ha1, T1⟩ | hs
  · dsimp only at ha1 T1 ⊢
    rw [if_neg (by decide), zGw_0]
    simp only [zb_some]
    rw [if_neg (by decide), hg2]
    obtain ⟨u1, u2⟩ := zTS_cast h0 ⟨l1, l2⟩
    obtain ⟨r2, hr2, q2, hq2, h2⟩ := zSemi (got := v) (fk := fk) (fp := fp) (wa := wa) hn ha1 ht ho T1
    rw [hr2, hq2]
    simp only [zb_some]
    rw [show v.toInt64.toInt32 = v from z64_32 v, zn01.2]
    rcases h2 with ⟨y', rfl, rfl, hy⟩ | hs
    · exact zw_some (zw_some (Or.inl ⟨_, y', _, _, _, _, _, rfl, rfl, hy, u1, u2⟩))
    · exact zw_some (zw_some (Or.inr ⟨hs, u2⟩))
  · rw [if_pos hs.1, zGw_n hs.2.1]
    simp only [zb_some]
    rw [if_pos trivial, hg2, zMark_n hs.2.1]
    simp only [zb_some]
    obtain ⟨r2, hr2, h2, h3, h4⟩ := zSemi_0 (n := n) (f := f) (own := own) (s_20 := (0, r1.2.1, r1.2.2.1, r1.2.2.2.1, cF, cc, r1.2.2.2.2.1, r1.2.2.2.2.2.1, r1.2.2.2.2.2.2.1, r1.2.2.2.2.2.2.2.1, r1.2.2.2.2.2.2.2.2, cN, inp, nF, stp, mst, prc, nN, op, fx, al, lets, jn, made, amt)) rfl
    rw [hr2]
    refine zw_some (zw_some (Or.inr ⟨⟨h2, hs.2.1, h3.trans hs.2.2.1, h4.trans hs.2.2.2⟩, ?_⟩))
    rw [zn01.2]
    have eu : upd mCst 1 (mCst 1) = mCst := by
      funext i
      show (if i = 1 then mCst 1 else mCst i) = mCst i
      split
      · rename_i q; rw [q]
      · rfl
    dsimp only
    rw [eu]
    exact zFR_rf
set_option maxRecDepth 100000 in
theorem zSt_box {n a e k s v o got fk fp bg wa : Int32} {wv0 : Int64} {f g own tab : Nat → Int32} {cF cc cN inp : Int32} {nF nN stp mst prc al made amt op fx jn lets : Nat → Int32} {mF mN mNF mNN mS mM mC mW mCst mO m1 m2 mX mG : Nat → Int32} {mA mB : Nat → Int64} (hn : n ≤ 1200) (ha : 0 ≤ a ∧ a ≤ n) (ht : zTp f g) (ho : ∀ w : Nat, w < 13 → own w = zOwT w) (hT : (∀ k : Nat, k < 71 → tab k = zTab k)) (T : zTok n f g a e k s v o) (h : zTS cF cc cN inp nF nN stp mst prc al made amt op fx jn lets mF mN mNF mNN mS mM mC mW mCst mO m1 m2 mX mG mA mB) (hc : cN < 14) :
    zw (zb (fn_X5_readBox got fk fp n e k s v o cF nF cN inp nN f own made amt op fx al jn lets) (fun o_1 => (zJ5 n f own (o_1.1, o_1.2.1, o_1.2.2.1, o_1.2.2.2.1, cF, cc, o_1.2.2.2.2.1, o_1.2.2.2.2.2.1, o_1.2.2.2.2.2.2.1, o_1.2.2.2.2.2.2.2.1, o_1.2.2.2.2.2.2.2.2.1, o_1.2.2.2.2.2.2.2.2.2.1, o_1.2.2.2.2.2.2.2.2.2.2.1, nF, stp, mst, prc, o_1.2.2.2.2.2.2.2.2.2.2.2.1, o_1.2.2.2.2.2.2.2.2.2.2.2.2.2.2.1, o_1.2.2.2.2.2.2.2.2.2.2.2.2.2.2.2.1, o_1.2.2.2.2.2.2.2.2.2.2.2.2.2.2.2.2.1, o_1.2.2.2.2.2.2.2.2.2.2.2.2.2.2.2.2.2.2, o_1.2.2.2.2.2.2.2.2.2.2.2.2.2.2.2.2.2.1, o_1.2.2.2.2.2.2.2.2.2.2.2.2.1, o_1.2.2.2.2.2.2.2.2.2.2.2.2.2.1)))) (fun r => zw (zb (fn_X12_readsInput n a bg 0 wa 1 g tab mF mNF mN mNN mO m1 m2 mX mW mG mA mB) (fun o_1 => (zb (fn_X12_mark 59 n o_1.1 o_1.2.2.1 o_1.2.2.2.1 g) (fun o_2 => (some (wv0, o_2.1, o_1.2.1, o_2.2.1, o_2.2.2, mF, o_1.2.2.2.2.1, mNF, o_1.2.2.2.2.2.1, mS, mM, mC, o_1.2.2.2.2.2.2.2.2.2.2.1, mCst, o_1.2.2.2.2.2.2.1, o_1.2.2.2.2.2.2.2.1, o_1.2.2.2.2.2.2.2.2.1, o_1.2.2.2.2.2.2.2.2.2.1, o_1.2.2.2.2.2.2.2.2.2.2.2.1, o_1.2.2.2.2.2.2.2.2.2.2.2.2.1, o_1.2.2.2.2.2.2.2.2.2.2.2.2.2)))))) (fun q => zSR n f g fk fp wa mF mN mNF mNN mS mM mC mW mCst mO m1 m2 mX mG mA mB r q)) := by
  have h0 := h
  obtain ⟨hF, hN, hC, hI, hfm, hnu, hgr⟩ := h
  obtain ⟨r1, hr1, q1, hq1, h1⟩ := zBox (got := got) (fk := fk) (fp := fp) (bg := bg) (wa := wa) (inp := inp) (made := made) (amt := amt) (op := op) (fx := fx) (al := al) (jn := jn) (lets := lets) (mO := mO) (m1 := m1) (m2 := m2) (mX := mX) (mW := mW) (mG := mG) (mA := mA) (mB := mB) hn ha ht ho hT T hF ⟨hN.1, hN.2.1, hc⟩ (zNR_F hfm) (zNR_N hnu)
  rw [hr1, hq1]
  simp only [zb_some]
  rcases h1 with ⟨g', e', k', s', v', o', z, b', c, m, x, y, rfl, rfl, hnm, l1, l2, l3, ha1, T1⟩ | ⟨hs, hrow⟩
  · dsimp only at ha1 T1 ⊢
    obtain ⟨u1, u2⟩ := zTS_box h0 hc hnm l1 l2 l3
    obtain ⟨r2, hr2, q2, hq2, h2⟩ := zSemi (got := g') (fk := fk) (fp := fp) (wa := wa) hn ha1 ht ho T1
    rw [hr2, hq2]
    simp only [zb_some]
    rcases h2 with ⟨y', rfl, rfl, hy⟩ | hs
    · exact zw_some (zw_some (Or.inl ⟨_, y', _, _, _, _, _, rfl, rfl, hy, u1, u2⟩))
    · exact zw_some (zw_some (Or.inr ⟨hs, u2⟩))
  · obtain ⟨r2, hr2, h2, h3, h4⟩ := zSemi_0 (n := n) (f := f) (own := own) (s_20 := (r1.1, r1.2.1, r1.2.2.1, r1.2.2.2.1, cF, cc, r1.2.2.2.2.1, r1.2.2.2.2.2.1, r1.2.2.2.2.2.2.1, r1.2.2.2.2.2.2.2.1, r1.2.2.2.2.2.2.2.2.1, r1.2.2.2.2.2.2.2.2.2.1, r1.2.2.2.2.2.2.2.2.2.2.1, nF, stp, mst, prc, r1.2.2.2.2.2.2.2.2.2.2.2.1, r1.2.2.2.2.2.2.2.2.2.2.2.2.2.2.1, r1.2.2.2.2.2.2.2.2.2.2.2.2.2.2.2.1, r1.2.2.2.2.2.2.2.2.2.2.2.2.2.2.2.2.1, r1.2.2.2.2.2.2.2.2.2.2.2.2.2.2.2.2.2.2, r1.2.2.2.2.2.2.2.2.2.2.2.2.2.2.2.2.2.1, r1.2.2.2.2.2.2.2.2.2.2.2.2.1, r1.2.2.2.2.2.2.2.2.2.2.2.2.2.1)) hs.1
    rw [hr2]
    rw [zMark_n hs.2.1]
    simp only [zb_some]
    refine zw_some (zw_some (Or.inr ⟨⟨h2, hs.2.1, h3.trans hs.2.2.1, h4.trans hs.2.2.2⟩, ?_⟩))
    have hrow := hrow
    have e0 := congrArg (fun t => t.1) hrow
    have e1 := congrArg (fun t => t.2.1) hrow
    have e2 := congrArg (fun t => t.2.2.1) hrow
    have e3 := congrArg (fun t => t.2.2.2.1) hrow
    have e4 := congrArg (fun t => t.2.2.2.2.1) hrow
    have e5 := congrArg (fun t => t.2.2.2.2.2.1) hrow
    have e6 := congrArg (fun t => t.2.2.2.2.2.2.1) hrow
    have e7 := congrArg (fun t => t.2.2.2.2.2.2.2.1) hrow
    have e8 := congrArg (fun t => t.2.2.2.2.2.2.2.2.1) hrow
    have e9 := congrArg (fun t => t.2.2.2.2.2.2.2.2.2) hrow
    dsimp only at e0 e1 e2 e3 e4 e5 e6 e7 e8 e9 ⊢
    rw [e0, e1, e2, e3, e4, e5, e6, e7, e8, e9]
    exact zFR_rf
set_option maxRecDepth 100000 in
theorem zSt_let {n a e k s v o got fk fp bg wa : Int32} {wv0 : Int64} {f g own tab : Nat → Int32} {cF cc cN inp : Int32} {nF nN stp mst prc al made amt op fx jn lets : Nat → Int32} {mF mN mNF mNN mS mM mC mW mCst mO m1 m2 mX mG : Nat → Int32} {mA mB : Nat → Int64} (hn : n ≤ 1200) (ha : 0 ≤ a ∧ a ≤ n) (ht : zTp f g) (ho : ∀ w : Nat, w < 13 → own w = zOwT w) (hT : (∀ k : Nat, k < 71 → tab k = zTab k)) (T : zTok n f g a e k s v o) (h : zTS cF cc cN inp nF nN stp mst prc al made amt op fx jn lets mF mN mNF mNN mS mM mC mW mCst mO m1 m2 mX mG mA mB) (hc : cN < 14) :
    zw (zb (fn_X5_readLet got fk fp n e k s v o cF nF cN inp nN f own made amt op fx al jn lets) (fun o_1 => (zJ5 n f own (o_1.1, o_1.2.1, o_1.2.2.1, o_1.2.2.2.1, cF, cc, o_1.2.2.2.2.1, o_1.2.2.2.2.2.1, o_1.2.2.2.2.2.2.1, o_1.2.2.2.2.2.2.2.1, o_1.2.2.2.2.2.2.2.2.1, o_1.2.2.2.2.2.2.2.2.2.1, o_1.2.2.2.2.2.2.2.2.2.2.1, nF, stp, mst, prc, o_1.2.2.2.2.2.2.2.2.2.2.2.1, o_1.2.2.2.2.2.2.2.2.2.2.2.2.2.2.1, o_1.2.2.2.2.2.2.2.2.2.2.2.2.2.2.2.1, o_1.2.2.2.2.2.2.2.2.2.2.2.2.2.2.2.2.1, o_1.2.2.2.2.2.2.2.2.2.2.2.2.2.2.2.2.2.2, o_1.2.2.2.2.2.2.2.2.2.2.2.2.2.2.2.2.2.1, o_1.2.2.2.2.2.2.2.2.2.2.2.2.1, o_1.2.2.2.2.2.2.2.2.2.2.2.2.2.1)))) (fun r => zw (zb (fn_X12_readsLet n a bg 0 wa 1 g tab mF mNF mN mNN mO m1 m2 mX mW mG mA mB) (fun o_1 => (zb (fn_X12_mark 59 n o_1.2.1 o_1.2.2.2.1 o_1.2.2.2.2.1 g) (fun o_2 => (some (o_1.1, o_2.1, o_1.2.2.1, o_2.2.1, o_2.2.2, mF, o_1.2.2.2.2.2.1, mNF, o_1.2.2.2.2.2.2.1, mS, mM, mC, o_1.2.2.2.2.2.2.2.2.2.2.2.1, mCst, o_1.2.2.2.2.2.2.2.1, o_1.2.2.2.2.2.2.2.2.1, o_1.2.2.2.2.2.2.2.2.2.1, o_1.2.2.2.2.2.2.2.2.2.2.1, o_1.2.2.2.2.2.2.2.2.2.2.2.2.1, o_1.2.2.2.2.2.2.2.2.2.2.2.2.2.1, o_1.2.2.2.2.2.2.2.2.2.2.2.2.2.2)))))) (fun q => zSR n f g fk fp wa mF mN mNF mNN mS mM mC mW mCst mO m1 m2 mX mG mA mB r q)) := by
  have h0 := h
  obtain ⟨hF, hN, hC, hI, hfm, hnu, hgr⟩ := h
  obtain ⟨r1, hr1, q1, hq1, h1⟩ := zLetS (got := got) (fk := fk) (fp := fp) (bg := bg) (wa := wa) (inp := inp) (made := made) (amt := amt) (op := op) (fx := fx) (al := al) (jn := jn) (lets := lets) (mO := mO) (m1 := m1) (m2 := m2) (mX := mX) (mW := mW) (mG := mG) (mA := mA) (mB := mB) hn ha ht ho hT T hF ⟨hN.1, hN.2.1, hc⟩ (zNR_F hfm) (zNR_N hnu)
  rw [hr1, hq1]
  simp only [zb_some]
  rcases h1 with ⟨g', e', k', s', v', o', z, b', c, m, w, p1, x1, p2, x2, rfl, eq1, hnm, hw, hp1, hp2, hx1, hx2, ha1, T1⟩ | ⟨hs, hrow⟩
  · obtain ⟨wv1, q1⟩ := q1
    dsimp only at eq1
    subst eq1
    dsimp only at ha1 T1 ⊢
    obtain ⟨u1, u2⟩ := zTS_let h0 hc hnm hw hp1 hp2 hx1 hx2
    obtain ⟨r2, hr2, q2, hq2, h2⟩ := zSemi (got := g') (fk := fk) (fp := fp) (wa := wa) hn ha1 ht ho T1
    rw [hr2, hq2]
    simp only [zb_some]
    rcases h2 with ⟨y', rfl, rfl, hy⟩ | hs
    · exact zw_some (zw_some (Or.inl ⟨_, y', _, _, _, _, _, rfl, rfl, hy, u1, u2⟩))
    · exact zw_some (zw_some (Or.inr ⟨hs, u2⟩))
  · obtain ⟨r2, hr2, h2, h3, h4⟩ := zSemi_0 (n := n) (f := f) (own := own) (s_20 := (r1.1, r1.2.1, r1.2.2.1, r1.2.2.2.1, cF, cc, r1.2.2.2.2.1, r1.2.2.2.2.2.1, r1.2.2.2.2.2.2.1, r1.2.2.2.2.2.2.2.1, r1.2.2.2.2.2.2.2.2.1, r1.2.2.2.2.2.2.2.2.2.1, r1.2.2.2.2.2.2.2.2.2.2.1, nF, stp, mst, prc, r1.2.2.2.2.2.2.2.2.2.2.2.1, r1.2.2.2.2.2.2.2.2.2.2.2.2.2.2.1, r1.2.2.2.2.2.2.2.2.2.2.2.2.2.2.2.1, r1.2.2.2.2.2.2.2.2.2.2.2.2.2.2.2.2.1, r1.2.2.2.2.2.2.2.2.2.2.2.2.2.2.2.2.2.2, r1.2.2.2.2.2.2.2.2.2.2.2.2.2.2.2.2.2.1, r1.2.2.2.2.2.2.2.2.2.2.2.2.1, r1.2.2.2.2.2.2.2.2.2.2.2.2.2.1)) hs.1
    rw [hr2]
    rw [zMark_n hs.2.1]
    simp only [zb_some]
    refine zw_some (zw_some (Or.inr ⟨⟨h2, hs.2.1, h3.trans hs.2.2.1, h4.trans hs.2.2.2⟩, ?_⟩))
    have hrow := hrow
    have e0 := congrArg (fun t => t.1) hrow
    have e1 := congrArg (fun t => t.2.1) hrow
    have e2 := congrArg (fun t => t.2.2.1) hrow
    have e3 := congrArg (fun t => t.2.2.2.1) hrow
    have e4 := congrArg (fun t => t.2.2.2.2.1) hrow
    have e5 := congrArg (fun t => t.2.2.2.2.2.1) hrow
    have e6 := congrArg (fun t => t.2.2.2.2.2.2.1) hrow
    have e7 := congrArg (fun t => t.2.2.2.2.2.2.2.1) hrow
    have e8 := congrArg (fun t => t.2.2.2.2.2.2.2.2.1) hrow
    have e9 := congrArg (fun t => t.2.2.2.2.2.2.2.2.2) hrow
    dsimp only at e0 e1 e2 e3 e4 e5 e6 e7 e8 e9 ⊢
    rw [e0, e1, e2, e3, e4, e5, e6, e7, e8, e9]
    exact zFR_rf
set_option maxRecDepth 100000 in
theorem zSt_fix {n a e k s v o got fk fp bg wa : Int32} {wv0 : Int64} {f g own tab : Nat → Int32} {cF cc cN inp : Int32} {nF nN stp mst prc al made amt op fx jn lets : Nat → Int32} {mF mN mNF mNN mS mM mC mW mCst mO m1 m2 mX mG : Nat → Int32} {mA mB : Nat → Int64} (hn : n ≤ 1200) (ha : 0 ≤ a ∧ a ≤ n) (ht : zTp f g) (ho : ∀ w : Nat, w < 13 → own w = zOwT w) (hT : (∀ k : Nat, k < 71 → tab k = zTab k)) (T : zTok n f g a e k s v o) (h : zTS cF cc cN inp nF nN stp mst prc al made amt op fx jn lets mF mN mNF mNN mS mM mC mW mCst mO m1 m2 mX mG mA mB) :
    zw (zb (fn_X5_readFixed got fk fp cF n e k s v o cN nN f own nF fx) (fun o_1 => (zJ5 n f own (o_1.1, o_1.2.1, o_1.2.2.1, o_1.2.2.2.1, cF, cc, o_1.2.2.2.2.1, o_1.2.2.2.2.2.1, o_1.2.2.2.2.2.2.1, o_1.2.2.2.2.2.2.2.1, o_1.2.2.2.2.2.2.2.2.1, cN, inp, nF, stp, mst, prc, nN, op, o_1.2.2.2.2.2.2.2.2.2, al, lets, jn, made, amt)))) (fun r => zw (zb (fn_X12_readsFixed n a bg 0 wa 1 g tab mN mNN mF mNF mX) (fun o_1 => (zb (fn_X12_mark 59 n o_1.1 o_1.2.2.1 o_1.2.2.2.1 g) (fun o_2 => (some (wv0, o_2.1, o_1.2.1, o_2.2.1, o_2.2.2, mF, mN, mNF, mNN, mS, mM, mC, mW, mCst, mO, m1, m2, o_1.2.2.2.2, mG, mA, mB)))))) (fun q => zSR n f g fk fp wa mF mN mNF mNN mS mM mC mW mCst mO m1 m2 mX mG mA mB r q)) := by
  have h0 := h
  obtain ⟨hF, hN, hC, hI, hfm, hnu, hgr⟩ := h
  obtain ⟨r1, hr1, q1, hq1, h1⟩ := zFixed (got := got) (fk := fk) (fp := fp) (bg := bg) (wa := wa) (fx := fx) (mX := mX) hn ha ht ho hT T hF hN (zNR_F hfm) (zNR_N hnu)
  rw [hr1, hq1]
  simp only [zb_some]
  rcases h1 with ⟨g', e', k', s', v', o', z, b', i, x, rfl, rfl, hi, hx, ha1, T1⟩ | ⟨hs, hrow⟩
  · dsimp only at ha1 T1 ⊢
    obtain ⟨u1, u2⟩ := zTS_fix h0 hi hx
    obtain ⟨r2, hr2, q2, hq2, h2⟩ := zSemi (got := g') (fk := fk) (fp := fp) (wa := wa) hn ha1 ht ho T1
    rw [hr2, hq2]
    simp only [zb_some]
    rcases h2 with ⟨y', rfl, rfl, hy⟩ | hs
    · exact zw_some (zw_some (Or.inl ⟨_, y', _, _, _, _, _, rfl, rfl, hy, u1, u2⟩))
    · exact zw_some (zw_some (Or.inr ⟨hs, u2⟩))
  · obtain ⟨r2, hr2, h2, h3, h4⟩ := zSemi_0 (n := n) (f := f) (own := own) (s_20 := (r1.1, r1.2.1, r1.2.2.1, r1.2.2.2.1, cF, cc, r1.2.2.2.2.1, r1.2.2.2.2.2.1, r1.2.2.2.2.2.2.1, r1.2.2.2.2.2.2.2.1, r1.2.2.2.2.2.2.2.2.1, cN, inp, nF, stp, mst, prc, nN, op, r1.2.2.2.2.2.2.2.2.2, al, lets, jn, made, amt)) hs.1
    rw [hr2]
    rw [zMark_n hs.2.1]
    simp only [zb_some]
    refine zw_some (zw_some (Or.inr ⟨⟨h2, hs.2.1, h3.trans hs.2.2.1, h4.trans hs.2.2.2⟩, ?_⟩))
    dsimp only
    rw [hrow]
    exact zFR_rf
set_option maxRecDepth 100000 in
theorem zSt_grp {n a e k s v o got fk fp bg wa : Int32} {wv0 : Int64} {f g own tab : Nat → Int32} {cF cc cN inp : Int32} {nF nN stp mst prc al made amt op fx jn lets : Nat → Int32} {mF mN mNF mNN mS mM mC mW mCst mO m1 m2 mX mG : Nat → Int32} {mA mB : Nat → Int64} (hn : n ≤ 1200) (ha : 0 ≤ a ∧ a ≤ n) (ht : zTp f g) (ho : ∀ w : Nat, w < 13 → own w = zOwT w) (hT : (∀ k : Nat, k < 71 → tab k = zTab k)) (T : zTok n f g a e k s v o) (h : zTS cF cc cN inp nF nN stp mst prc al made amt op fx jn lets mF mN mNF mNN mS mM mC mW mCst mO m1 m2 mX mG mA mB) :
    zw (zb (fn_X5_readGroup got fk fp n e k s v o cN nN f own jn) (fun o_1 => (zJ5 n f own (o_1.1, o_1.2.1, o_1.2.2.1, o_1.2.2.2.1, cF, cc, o_1.2.2.2.2.1, o_1.2.2.2.2.2.1, o_1.2.2.2.2.2.2.1, o_1.2.2.2.2.2.2.2.1, o_1.2.2.2.2.2.2.2.2.1, cN, inp, nF, stp, mst, prc, nN, op, fx, al, lets, o_1.2.2.2.2.2.2.2.2.2, made, amt)))) (fun r => zw (zb (fn_X12_readsGroup n a bg 0 wa 1 g tab mN mNN mG) (fun o_1 => (zb (fn_X12_mark 59 n o_1.1 o_1.2.2.1 o_1.2.2.2.1 g) (fun o_2 => (some (wv0, o_2.1, o_1.2.1, o_2.2.1, o_2.2.2, mF, mN, mNF, mNN, mS, mM, mC, mW, mCst, mO, m1, m2, mX, o_1.2.2.2.2, mA, mB)))))) (fun q => zSR n f g fk fp wa mF mN mNF mNN mS mM mC mW mCst mO m1 m2 mX mG mA mB r q)) := by
  have h0 := h
  obtain ⟨hF, hN, hC, hI, hfm, hnu, hgr⟩ := h
  obtain ⟨r1, hr1, q1, hq1, h1⟩ := zGroupS (got := got) (fk := fk) (fp := fp) (bg := bg) (wa := wa) (jn := jn) (mG := mG) hn ha ht ho hT T hN (zNR_N hnu)
  rw [hr1, hq1]
  simp only [zb_some]
  rcases h1 with ⟨g', e', k', s', v', o', J, z, b', G, i, j, rfl, rfl, hi, hj, hij, hJ, hG, ha1, T1⟩ | ⟨hs, hrow⟩
  · dsimp only at ha1 T1 ⊢
    obtain ⟨u1, u2⟩ := zTS_grp h0 hi hj hJ hG
    obtain ⟨r2, hr2, q2, hq2, h2⟩ := zSemi (got := g') (fk := fk) (fp := fp) (wa := wa) hn ha1 ht ho T1
    rw [hr2, hq2]
    simp only [zb_some]
    rcases h2 with ⟨y', rfl, rfl, hy⟩ | hs
    · exact zw_some (zw_some (Or.inl ⟨_, y', _, _, _, _, _, rfl, rfl, hy, u1, u2⟩))
    · exact zw_some (zw_some (Or.inr ⟨hs, u2⟩))
  · obtain ⟨r2, hr2, h2, h3, h4⟩ := zSemi_0 (n := n) (f := f) (own := own) (s_20 := (r1.1, r1.2.1, r1.2.2.1, r1.2.2.2.1, cF, cc, r1.2.2.2.2.1, r1.2.2.2.2.2.1, r1.2.2.2.2.2.2.1, r1.2.2.2.2.2.2.2.1, r1.2.2.2.2.2.2.2.2.1, cN, inp, nF, stp, mst, prc, nN, op, fx, al, lets, r1.2.2.2.2.2.2.2.2.2, made, amt)) hs.1
    rw [hr2]
    rw [zMark_n hs.2.1]
    simp only [zb_some]
    refine zw_some (zw_some (Or.inr ⟨⟨h2, hs.2.1, h3.trans hs.2.2.1, h4.trans hs.2.2.2⟩, ?_⟩))
    dsimp only
    rw [hrow]
    exact zFR_rf
set_option maxRecDepth 100000 in
theorem zSt_alw {n a e k s v o got fk fp bg wa : Int32} {wv0 : Int64} {f g own tab : Nat → Int32} {cF cc cN inp : Int32} {nF nN stp mst prc al made amt op fx jn lets : Nat → Int32} {mF mN mNF mNN mS mM mC mW mCst mO m1 m2 mX mG : Nat → Int32} {mA mB : Nat → Int64} (hn : n ≤ 1200) (ha : 0 ≤ a ∧ a ≤ n) (ht : zTp f g) (ho : ∀ w : Nat, w < 13 → own w = zOwT w) (hT : (∀ k : Nat, k < 71 → tab k = zTab k)) (T : zTok n f g a e k s v o) (h : zTS cF cc cN inp nF nN stp mst prc al made amt op fx jn lets mF mN mNF mNN mS mM mC mW mCst mO m1 m2 mX mG mA mB) :
    zw (zb (fn_X5_readAnswer got fk fp n e k s v o cN nN f own al) (fun o_1 => (zJ5 n f own (o_1.1, o_1.2.1, o_1.2.2.1, o_1.2.2.2.1, cF, cc, o_1.2.2.2.2.1, o_1.2.2.2.2.2.1, o_1.2.2.2.2.2.2.1, o_1.2.2.2.2.2.2.2.1, o_1.2.2.2.2.2.2.2.2.1, cN, inp, nF, stp, mst, prc, nN, op, fx, o_1.2.2.2.2.2.2.2.2.2, lets, jn, made, amt)))) (fun r => zw (zb (fn_X12_readsAnswer n a bg 0 wa 1 g tab mN mNN mW) (fun o_1 => (zb (fn_X12_mark 59 n o_1.1 o_1.2.2.1 o_1.2.2.2.1 g) (fun o_2 => (some (wv0, o_2.1, o_1.2.1, o_2.2.1, o_2.2.2, mF, mN, mNF, mNN, mS, mM, mC, o_1.2.2.2.2, mCst, mO, m1, m2, mX, mG, mA, mB)))))) (fun q => zSR n f g fk fp wa mF mN mNF mNN mS mM mC mW mCst mO m1 m2 mX mG mA mB r q)) := by
  have h0 := h
  obtain ⟨hF, hN, hC, hI, hfm, hnu, hgr⟩ := h
  obtain ⟨r1, hr1, q1, hq1, h1⟩ := zAnswer (got := got) (fk := fk) (fp := fp) (bg := bg) (wa := wa) (al := al) (mW := mW) hn ha ht ho hT T hN (zNR_N hnu)
  rw [hr1, hq1]
  simp only [zb_some]
  rcases h1 with ⟨g', e', k', s', v', o', z, b', i, x, rfl, rfl, hi, hx, ha1, T1⟩ | ⟨hs, hrow⟩
  · dsimp only at ha1 T1 ⊢
    obtain ⟨u1, u2⟩ := zTS_alw h0 hi hx
    obtain ⟨r2, hr2, q2, hq2, h2⟩ := zSemi (got := g') (fk := fk) (fp := fp) (wa := wa) hn ha1 ht ho T1
    rw [hr2, hq2]
    simp only [zb_some]
    rcases h2 with ⟨y', rfl, rfl, hy⟩ | hs
    · exact zw_some (zw_some (Or.inl ⟨_, y', _, _, _, _, _, rfl, rfl, hy, u1, u2⟩))
    · exact zw_some (zw_some (Or.inr ⟨hs, u2⟩))
  · obtain ⟨r2, hr2, h2, h3, h4⟩ := zSemi_0 (n := n) (f := f) (own := own) (s_20 := (r1.1, r1.2.1, r1.2.2.1, r1.2.2.2.1, cF, cc, r1.2.2.2.2.1, r1.2.2.2.2.2.1, r1.2.2.2.2.2.2.1, r1.2.2.2.2.2.2.2.1, r1.2.2.2.2.2.2.2.2.1, cN, inp, nF, stp, mst, prc, nN, op, fx, r1.2.2.2.2.2.2.2.2.2, lets, jn, made, amt)) hs.1
    rw [hr2]
    rw [zMark_n hs.2.1]
    simp only [zb_some]
    refine zw_some (zw_some (Or.inr ⟨⟨h2, hs.2.1, h3.trans hs.2.2.1, h4.trans hs.2.2.2⟩, ?_⟩))
    dsimp only
    rw [hrow]
    exact zFR_rf
