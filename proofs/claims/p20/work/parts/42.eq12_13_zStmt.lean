set_option maxRecDepth 100000 in
set_option maxHeartbeats 4000000 in
theorem zStmt {p n a e k s v o got fk fp bg wa : Int32} {wv0 : Int64} {f g own tab : Nat → Int32} {cF cc cN inp : Int32} {nF nN stp mst prc al made amt op fx jn lets : Nat → Int32} {mF mN mNF mNN mS mM mC mW mCst mO m1 m2 mX mG : Nat → Int32} {mA mB : Nat → Int64} (hn : n ≤ 1200) (ha : 0 ≤ a ∧ a ≤ n) (ht : zTp f g) (ho : ∀ w : Nat, w < 13 → own w = zOwT w) (hT : (∀ k : Nat, k < 71 → tab k = zTab k)) (T : zTok n f g a e k s v o) (h : zTS cF cc cN inp nF nN stp mst prc al made amt op fx jn lets mF mN mNF mNN mS mM mC mW mCst mO m1 m2 mX mG mA mB) (hp : 0 ≤ p ∧ p ≤ 40) : zw (fn_X5_readStatement p got fk fp n e k s v o cF cc cN inp f own nF nN stp mst prc al made amt op fx jn lets) (fun r => zw (fn_X12_readsStatement p n a bg 0 wa 1 wv0 g tab mF mN mNF mNN mS mM mC mW mCst mO m1 m2 mX mG mA mB) (fun q => zSR n f g fk fp wa mF mN mNF mNN mS mM mC mW mCst mO m1 m2 mX mG mA mB r q ∧ (¬ r.1 = 0 → p < 40))) := by
  have h0 := h
  obtain ⟨hF, hN, hC, hI, hfm, hnu, hgr⟩ := h
  have h10 : ¬ (1 : Int32) = 0 := by decide
  unfold fn_X5_readStatement
  by_cases hb : zBeg o
  · rw [(zStarts_y hb).1]
    simp only [zb_some]
    rw [if_neg h10]
    by_cases hf : zFull p o (mF 1) (mN 1)
    · have hm := zRS_4 (bg := bg) (wa := wa) (wv0 := wv0) (mNF := mNF) (mNN := mNN) (mS := mS) (mM := mM) (mC := mC) (mW := mW) (mCst := mCst) (mO := mO) (m1 := m1) (m2 := m2) (mX := mX) (mG := mG) (mA := mA) (mB := mB) hn ha hT T hb hf
      rw [hm]
      refine zw_if (fun c => ?_) (fun c => ?_)
      · exact zw_some (zw_some ⟨Or.inr ⟨⟨rfl, show ¬ (4 : Int32) = 0 by decide, rfl, rfl⟩, zFR_rf⟩, fun q => absurd rfl q⟩)
      · have hfc : o = 0 ∧ cF = 4 ∨ (o = 5 ∨ o = 6) ∧ cN = 14 := by
          rw [hF.1, hN.1] at hf
          rcases hf with q | q
          · exact absurd (show 40 ≤ p by rw [q]; decide) c
          · exact q
        rw [zIsFull hF.2 hN.2, if_pos hfc]
        simp only [zb_some]
        rw [if_neg h10]
        exact zw_some (zw_some ⟨Or.inr ⟨⟨rfl, show ¬ (4 : Int32) = 0 by decide, rfl, rfl⟩, zFR_rf⟩, fun q => absurd rfl q⟩)
    · have hf40 : ¬ 40 ≤ p := fun q => hf (Or.inl (by grind))
      have hnf : ¬ (o = 0 ∧ cF = 4 ∨ (o = 5 ∨ o = 6) ∧ cN = 14) := fun q => hf (by rw [hF.1, hN.1]; exact Or.inr q)
      rw [if_neg hf40, zIsFull hF.2 hN.2, if_neg hnf]
      simp only [zb_some]
      rw [if_pos trivial]
      have hk1 := (zTok_o T (zBeg_n hb)).1
      refine zw_zb0 (zAdvN hn ha ht ho T (Or.inl hk1)) (fun x hx => ?_)
      have ha1 := (zTok_nx hn ha T (Or.inl hk1)).1
      refine zw_zjE (j' := zJ5 n f own) rfl ?_
      (try dsimp only)
      have hb' := hb
      rcases hb' with q | q | q | q | q | q | q
      · rw [zRS_fmt (bg := bg) (wa := wa) (wv0 := wv0) hn ha hT T q hf]
        rw [if_pos q]
        exact zw_mono (zSt_fmt (wv0 := wv0) hn ha1 ht ho hT hx h0 (by rw [hF.1, hN.1] at hf; unfold zFull at hf; grind)) (fun r hr => zw_mono hr (fun q hq => ⟨hq, fun _ => by grind⟩))
      · rw [zRS_cst (bg := bg) (wa := wa) (wv0 := wv0) hn ha hT T q hf]
        rw [if_neg (by rw [q]; decide), if_neg (by rw [q]; decide), if_neg (by rw [q]; decide), if_neg (by rw [q]; decide), if_pos q]
        exact zw_mono (zSt_cst (wv0 := wv0) hn ha1 ht ho hT hx h0) (fun r hr => zw_mono hr (fun q hq => ⟨hq, fun _ => by grind⟩))
      · rw [zRS_box (bg := bg) (wa := wa) (wv0 := wv0) hn ha hT T q hf]
        rw [if_neg (by rw [q]; decide), if_neg (by rw [q]; decide), if_neg (by rw [q]; decide), if_neg (by rw [q]; decide), if_neg (by rw [q]; decide), if_pos q]
        exact zw_mono (zSt_box (wv0 := wv0) hn ha1 ht ho hT hx h0 (by rw [hF.1, hN.1] at hf; unfold zFull at hf; grind)) (fun r hr => zw_mono hr (fun q hq => ⟨hq, fun _ => by grind⟩))
      · rw [zRS_let (bg := bg) (wa := wa) (wv0 := wv0) hn ha hT T q hf]
        rw [if_neg (by rw [q]; decide), if_neg (by rw [q]; decide), if_neg (by rw [q]; decide), if_neg (by rw [q]; decide), if_neg (by rw [q]; decide), if_neg (by rw [q]; decide), if_pos q]
        exact zw_mono (zSt_let (wv0 := wv0) hn ha1 ht ho hT hx h0 (by rw [hF.1, hN.1] at hf; unfold zFull at hf; grind)) (fun r hr => zw_mono hr (fun q hq => ⟨hq, fun _ => by grind⟩))
      · rw [zRS_fix (bg := bg) (wa := wa) (wv0 := wv0) hn ha hT T q hf]
        rw [if_neg (by rw [q]; decide), if_neg (by rw [q]; decide), if_neg (by rw [q]; decide), if_neg (by rw [q]; decide), if_neg (by rw [q]; decide), if_neg (by rw [q]; decide), if_neg (by rw [q]; decide), if_neg (by rw [q]; decide), if_neg (by rw [q]; decide), if_pos q]
        exact zw_mono (zSt_fix (wv0 := wv0) hn ha1 ht ho hT hx h0) (fun r hr => zw_mono hr (fun q hq => ⟨hq, fun _ => by grind⟩))
      · rw [zRS_grp (bg := bg) (wa := wa) (wv0 := wv0) hn ha hT T q hf]
        rw [if_neg (by rw [q]; decide), if_neg (by rw [q]; decide), if_neg (by rw [q]; decide), if_neg (by rw [q]; decide), if_neg (by rw [q]; decide), if_neg (by rw [q]; decide), if_neg (by rw [q]; decide), if_neg (by rw [q]; decide), if_neg (by rw [q]; decide), if_neg (by rw [q]; decide), if_pos q]
        exact zw_mono (zSt_grp (wv0 := wv0) hn ha1 ht ho hT hx h0) (fun r hr => zw_mono hr (fun q hq => ⟨hq, fun _ => by grind⟩))
      · rw [zRS_alw (bg := bg) (wa := wa) (wv0 := wv0) hn ha hT T q hf]
        rw [if_neg (by rw [q]; decide), if_neg (by rw [q]; decide), if_neg (by rw [q]; decide), if_neg (by rw [q]; decide), if_neg (by rw [q]; decide), if_neg (by rw [q]; decide), if_neg (by rw [q]; decide), if_neg (by rw [q]; decide), if_neg (by rw [q]; decide), if_neg (by rw [q]; decide), if_neg (by rw [q]; decide)]
        exact zw_mono (zSt_alw (wv0 := wv0) hn ha1 ht ho hT hx h0) (fun r hr => zw_mono hr (fun q hq => ⟨hq, fun _ => by grind⟩))
  · obtain ⟨z, b', hm⟩ := zRS_1 (p := p) (bg := bg) (wa := wa) (wv0 := wv0) (mF := mF) (mN := mN) (mNF := mNF) (mNN := mNN) (mS := mS) (mM := mM) (mC := mC) (mW := mW) (mCst := mCst) (mO := mO) (m1 := m1) (m2 := m2) (mX := mX) (mG := mG) (mA := mA) (mB := mB) hn ha hT T hb
    rw [hm, (zStarts_n hb).1]
    simp only [zb_some]
    rw [if_pos trivial]
    exact zw_some (zw_some ⟨Or.inr ⟨⟨rfl, show ¬ (1 : Int32) = 0 by decide, rfl, rfl⟩, zFR_rf⟩, fun q => absurd rfl q⟩)

