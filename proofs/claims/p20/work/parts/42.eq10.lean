/-! a TASK that is being read: class and reference -/
noncomputable def zCnt (op : Nat → Int32) : Nat → Int32
  | 0 => 0
  | k + 1 => zCnt op k + (if op k = 0 then 1 else 0)
noncomputable def zTS (cF cc cN inp : Int32) (nF nN stp mst prc al made amt op fx jn lets : Nat → Int32) (mF mN mNF mNN mS mM mC mW mCst mO m1 m2 mX mG : Nat → Int32) (mA mB : Nat → Int64) : Prop := (mF 1 = cF ∧ 0 ≤ cF ∧ cF ≤ 4) ∧ (mN 1 = cN ∧ 0 ≤ cN ∧ cN ≤ 14) ∧ (mCst 1 = cc ∧ 0 ≤ cc ∧ cc ≤ 999) ∧ inp = zCnt op cN.toNatClampNeg ∧ zFm 4 cF nF stp mst prc mNF mS mM mC ∧ zNu 14 cN cF nN op fx al made amt lets mNN mO m1 m2 mX mW mA mB ∧ zGr 14 cN jn mG
noncomputable def zK4 (A B : Nat → Int32) : Prop := ∀ y : Nat, y < 4 → B y = A y
noncomputable def zK14 (A B : Nat → Int32) : Prop := ∀ y : Nat, y < 14 → B y = A y
noncomputable def zL14 (A B : Nat → Int64) : Prop := ∀ y : Nat, y < 14 → B y = A y
noncomputable def zFR (mF mN mNF mNN mS mM mC mW mCst mO m1 m2 mX mG : Nat → Int32) (mA mB : Nat → Int64) (mF' mN' mNF' mNN' mS' mM' mC' mW' mCst' mO' m1' m2' mX' mG' : Nat → Int32) (mA' mB' : Nat → Int64) : Prop := mF' 0 = mF 0 ∧ mN' 0 = mN 0 ∧ zK4 mNF mNF' ∧ zK14 mNN mNN' ∧ zK4 mS mS' ∧ zK4 mM mM' ∧ zK4 mC mC' ∧ zK14 mW mW' ∧ mCst' 0 = mCst 0 ∧ zK14 mO mO' ∧ zK14 m1 m1' ∧ zK14 m2 m2' ∧ zK14 mX mX' ∧ zK14 mG mG' ∧ zL14 mA mA' ∧ zL14 mB mB'
theorem zFR_rf {mF mN mNF mNN mS mM mC mW mCst mO m1 m2 mX mG : Nat → Int32} {mA mB : Nat → Int64} : zFR mF mN mNF mNN mS mM mC mW mCst mO m1 m2 mX mG mA mB mF mN mNF mNN mS mM mC mW mCst mO m1 m2 mX mG mA mB := ⟨rfl, rfl, (fun _ _ => rfl), (fun _ _ => rfl), (fun _ _ => rfl), (fun _ _ => rfl), (fun _ _ => rfl), (fun _ _ => rfl), rfl, (fun _ _ => rfl), (fun _ _ => rfl), (fun _ _ => rfl), (fun _ _ => rfl), (fun _ _ => rfl), (fun _ _ => rfl), (fun _ _ => rfl)⟩
theorem zK4_up {A : Nat → Int32} {i x : Int32} (h : 0 ≤ i ∧ i < 4) : zK4 A (upd A (4 + i).toNatClampNeg x) := by
  intro y hy
  show (if y = (4 + i).toNatClampNeg then x else A y) = A y
  rw [if_neg]
  intro q
  have h1 := Int32.le_iff_toInt_le.mp h.1
  have h2 := Int32.lt_iff_toInt_lt.mp h.2
  rw [zi_0] at h1
  rw [show (4 : Int32).toInt = 4 by decide +kernel] at h2
  have h3 := zo_add (x := 4) (y := i) (z := 4 + i) rfl (by decide +kernel : (4 : Int32).toInt = 4) rfl (by omega)
  have h4 : (4 + i).toNatClampNeg = (4 + i).toInt.toNat := rfl
  omega
theorem zi14 {i : Int32} (h : 0 ≤ i ∧ i < 14) : 14 ≤ (14 + i).toNatClampNeg := by
  have h1 := Int32.le_iff_toInt_le.mp h.1
  have h2 := Int32.lt_iff_toInt_lt.mp h.2
  rw [zi_0] at h1
  rw [show (14 : Int32).toInt = 14 by decide +kernel] at h2
  have h3 := zo_add (x := 14) (y := i) (z := 14 + i) rfl (by decide +kernel : (14 : Int32).toInt = 14) rfl (by omega)
  show 14 ≤ (14 + i).toInt.toNat
  omega
theorem zK14_up {A : Nat → Int32} {i x : Int32} (h : 0 ≤ i ∧ i < 14) : zK14 A (upd A (14 + i).toNatClampNeg x) := by
  intro y hy
  have := zi14 h
  show (if y = (14 + i).toNatClampNeg then x else A y) = A y
  rw [if_neg (by omega)]
theorem zK14_up2 {A : Nat → Int32} {i x z : Int32} (h : 0 ≤ i ∧ i < 14) : zK14 A (upd (upd A (14 + i).toNatClampNeg z) (14 + i).toNatClampNeg x) := by
  intro y hy
  have := zi14 h
  show (if y = (14 + i).toNatClampNeg then x else if y = (14 + i).toNatClampNeg then z else A y) = A y
  rw [if_neg (by omega), if_neg (by omega)]
theorem zL14_up {A : Nat → Int64} {i : Int32} {x : Int64} (h : 0 ≤ i ∧ i < 14) : zL14 A (vp_updL A (14 + i).toNatClampNeg x) := by
  intro y hy
  have := zi14 h
  show (if y = (14 + i).toNatClampNeg then x else A y) = A y
  rw [if_neg (by omega)]
theorem zCnt_up {op : Nat → Int32} {w : Int32} : ∀ {k j : Nat}, k ≤ j → zCnt (upd op j w) k = zCnt op k := by
  intro k
  induction k with
  | zero => intro j _; rfl
  | succ k ih =>
    intro j hj
    show zCnt (upd op j w) k + (if upd op j w k = 0 then 1 else 0) = zCnt op k + (if op k = 0 then 1 else 0)
    rw [ih (by omega), show upd op j w k = op k from if_neg (by omega)]
theorem zCnt_add {op : Nat → Int32} {w cN : Int32} (h : 0 ≤ cN ∧ cN < 14) : zCnt (upd op cN.toNatClampNeg w) (cN + 1).toNatClampNeg = zCnt op cN.toNatClampNeg + (if w = 0 then 1 else 0) := by
  rw [zNx h.1 (by grind)]
  show zCnt (upd op cN.toNatClampNeg w) cN.toNatClampNeg + (if upd op cN.toNatClampNeg w cN.toNatClampNeg = 0 then 1 else 0) = _
  rw [zCnt_up (Nat.le_refl _), show upd op cN.toNatClampNeg w cN.toNatClampNeg = w from if_pos rfl]
theorem zup_tw {f : Nat → Int32} {a x z : Int32} (ha : 0 ≤ a) : ∀ b : Int32, 0 ≤ b → upd (upd f a.toNatClampNeg z) a.toNatClampNeg x b.toNatClampNeg = if b = a then x else f b.toNatClampNeg := by
  intro b hb
  rw [zup ha hb, zup ha hb]
  by_cases q : b = a
  · rw [if_pos q, if_pos q]
  · rw [if_neg q, if_neg q, if_neg q]
theorem zTS_fmt {cF cc cN inp : Int32} {nF nN stp mst prc al made amt op fx jn lets : Nat → Int32} {mF mN mNF mNN mS mM mC mW mCst mO m1 m2 mX mG : Nat → Int32} {mA mB : Nat → Int64} {c m x1 x2 x3 : Int32} (h : zTS cF cc cN inp nF nN stp mst prc al made amt op fx jn lets mF mN mNF mNN mS mM mC mW mCst mO m1 m2 mX mG mA mB) (hc : cF < 4) (hnm : zNm c m) (h1 : 1 ≤ x1 ∧ x1 ≤ 1000000) (h2 : 1 ≤ x2 ∧ x2 ≤ 1000000000) (h3 : 0 ≤ x3 ∧ x3 ≤ 999) : zTS (cF + 1) cc cN inp (upd nF cF.toNatClampNeg c) nN (upd stp cF.toNatClampNeg x1) (upd mst cF.toNatClampNeg x2) (upd prc cF.toNatClampNeg x3) al made amt op fx jn lets (upd mF 1 (cF + 1)) mN (upd mNF (4 + cF).toNatClampNeg m) mNN (upd mS (4 + cF).toNatClampNeg x1) (upd mM (4 + cF).toNatClampNeg x2) (upd mC (4 + cF).toNatClampNeg x3) mW mCst mO m1 m2 mX mG mA mB ∧ zFR mF mN mNF mNN mS mM mC mW mCst mO m1 m2 mX mG mA mB (upd mF 1 (cF + 1)) mN (upd mNF (4 + cF).toNatClampNeg m) mNN (upd mS (4 + cF).toNatClampNeg x1) (upd mM (4 + cF).toNatClampNeg x2) (upd mC (4 + cF).toNatClampNeg x3) mW mCst mO m1 m2 mX mG mA mB := by
  obtain ⟨hF, hN, hC, hI, hfm, hnu, hgr⟩ := h
  exact ⟨⟨⟨rfl, by grind, by grind⟩, hN, hC, hI, zFm_add ⟨by decide, by decide⟩ ⟨hF.2.1, hc⟩ hfm hnm h1 h2 h3, zNu_F hnu (by grind), hgr⟩, ⟨rfl, rfl, (zK4_up ⟨hF.2.1, hc⟩), (fun _ _ => rfl), (zK4_up ⟨hF.2.1, hc⟩), (zK4_up ⟨hF.2.1, hc⟩), (zK4_up ⟨hF.2.1, hc⟩), (fun _ _ => rfl), rfl, (fun _ _ => rfl), (fun _ _ => rfl), (fun _ _ => rfl), (fun _ _ => rfl), (fun _ _ => rfl), (fun _ _ => rfl), (fun _ _ => rfl)⟩⟩
theorem zTS_cast {cF cc cN inp : Int32} {nF nN stp mst prc al made amt op fx jn lets : Nat → Int32} {mF mN mNF mNN mS mM mC mW mCst mO m1 m2 mX mG : Nat → Int32} {mA mB : Nat → Int64} {x : Int32} (h : zTS cF cc cN inp nF nN stp mst prc al made amt op fx jn lets mF mN mNF mNN mS mM mC mW mCst mO m1 m2 mX mG mA mB) (hx : 0 ≤ x ∧ x ≤ 999) : zTS cF x cN inp nF nN stp mst prc al made amt op fx jn lets mF mN mNF mNN mS mM mC mW (upd mCst 1 x) mO m1 m2 mX mG mA mB ∧ zFR mF mN mNF mNN mS mM mC mW mCst mO m1 m2 mX mG mA mB mF mN mNF mNN mS mM mC mW (upd mCst 1 x) mO m1 m2 mX mG mA mB := by
  obtain ⟨hF, hN, hC, hI, hfm, hnu, hgr⟩ := h
  exact ⟨⟨hF, hN, ⟨rfl, hx.1, hx.2⟩, hI, hfm, hnu, hgr⟩, ⟨rfl, rfl, (fun _ _ => rfl), (fun _ _ => rfl), (fun _ _ => rfl), (fun _ _ => rfl), (fun _ _ => rfl), (fun _ _ => rfl), rfl, (fun _ _ => rfl), (fun _ _ => rfl), (fun _ _ => rfl), (fun _ _ => rfl), (fun _ _ => rfl), (fun _ _ => rfl), (fun _ _ => rfl)⟩⟩
theorem zTS_let {cF cc cN inp : Int32} {nF nN stp mst prc al made amt op fx jn lets : Nat → Int32} {mF mN mNF mNN mS mM mC mW mCst mO m1 m2 mX mG : Nat → Int32} {mA mB : Nat → Int64} {c m w p1 p2 x1 x2 : Int32} (h : zTS cF cc cN inp nF nN stp mst prc al made amt op fx jn lets mF mN mNF mNN mS mM mC mW mCst mO m1 m2 mX mG mA mB) (hc : cN < 14) (hnm : zNm c m) (hw : 1 ≤ w ∧ w ≤ 5) (hp1 : (-1) ≤ p1 ∧ p1 < cN) (hp2 : (-1) ≤ p2 ∧ p2 < cN) (hx1 : (-1000000) ≤ x1 ∧ x1 ≤ 1000000) (hx2 : (-1000000) ≤ x2 ∧ x2 ≤ 1000000) : zTS cF cc (cN + 1) inp nF (upd nN cN.toNatClampNeg c) stp mst prc (upd al cN.toNatClampNeg (-1)) (upd (upd made (2 * cN + 0).toNatClampNeg p1) (2 * cN + 1).toNatClampNeg p2) (upd (upd amt (2 * cN + 0).toNatClampNeg x1) (2 * cN + 1).toNatClampNeg x2) (upd op cN.toNatClampNeg w) (upd fx cN.toNatClampNeg (-1)) (upd jn cN.toNatClampNeg cN) (upd lets cN.toNatClampNeg (zDeep w cN (upd (upd made (2 * cN + 0).toNatClampNeg p1) (2 * cN + 1).toNatClampNeg p2) lets)) mF (upd mN 1 (cN + 1)) mNF (upd mNN (14 + cN).toNatClampNeg m) mS mM mC (upd mW (14 + cN).toNatClampNeg (-1)) mCst (upd mO (14 + cN).toNatClampNeg w) (upd (upd m1 (14 + cN).toNatClampNeg (-1)) (14 + cN).toNatClampNeg p1) (upd (upd m2 (14 + cN).toNatClampNeg (-1)) (14 + cN).toNatClampNeg p2) (upd mX (14 + cN).toNatClampNeg (-1)) (upd mG (14 + cN).toNatClampNeg cN) (vp_updL mA (14 + cN).toNatClampNeg x1.toInt64) (vp_updL mB (14 + cN).toNatClampNeg x2.toInt64) ∧ zFR mF mN mNF mNN mS mM mC mW mCst mO m1 m2 mX mG mA mB mF (upd mN 1 (cN + 1)) mNF (upd mNN (14 + cN).toNatClampNeg m) mS mM mC (upd mW (14 + cN).toNatClampNeg (-1)) mCst (upd mO (14 + cN).toNatClampNeg w) (upd (upd m1 (14 + cN).toNatClampNeg (-1)) (14 + cN).toNatClampNeg p1) (upd (upd m2 (14 + cN).toNatClampNeg (-1)) (14 + cN).toNatClampNeg p2) (upd mX (14 + cN).toNatClampNeg (-1)) (upd mG (14 + cN).toNatClampNeg cN) (vp_updL mA (14 + cN).toNatClampNeg x1.toInt64) (vp_updL mB (14 + cN).toNatClampNeg x2.toInt64) := by
  obtain ⟨hF, hN, hC, hI, hfm, hnu, hgr⟩ := h
  have h14 : 0 ≤ 14 + cN := by grind
  refine ⟨⟨hF, ⟨rfl, by grind, by grind⟩, hC, ?_, hfm, zNu_add ⟨by decide, by decide⟩ ⟨hN.2.1, hc⟩ hF.2.1 hnu hnm ⟨by grind, hw.2⟩ hp1 hp2 ⟨by grind, by grind⟩ ⟨by grind, by grind⟩ (fun q => absurd q (by grind)) (zup_tw h14) (zup_tw h14), zGr_add ⟨by decide, by decide⟩ ⟨hN.2.1, hc⟩ hgr⟩, ⟨rfl, rfl, (fun _ _ => rfl), (zK14_up ⟨hN.2.1, hc⟩), (fun _ _ => rfl), (fun _ _ => rfl), (fun _ _ => rfl), (zK14_up ⟨hN.2.1, hc⟩), rfl, (zK14_up ⟨hN.2.1, hc⟩), (zK14_up2 ⟨hN.2.1, hc⟩), (zK14_up2 ⟨hN.2.1, hc⟩), (zK14_up ⟨hN.2.1, hc⟩), (zK14_up ⟨hN.2.1, hc⟩), (zL14_up ⟨hN.2.1, hc⟩), (zL14_up ⟨hN.2.1, hc⟩)⟩⟩
  rw [zCnt_add ⟨hN.2.1, hc⟩, if_neg (by grind), hI]
  grind
theorem zDeep_0 {cN : Int32} {a b : Nat → Int32} : zDeep 0 cN a b = 0 := rfl
theorem zTS_box {cF cc cN inp : Int32} {nF nN stp mst prc al made amt op fx jn lets : Nat → Int32} {mF mN mNF mNN mS mM mC mW mCst mO m1 m2 mX mG : Nat → Int32} {mA mB : Nat → Int64} {c m x1 x2 : Int32} (h : zTS cF cc cN inp nF nN stp mst prc al made amt op fx jn lets mF mN mNF mNN mS mM mC mW mCst mO m1 m2 mX mG mA mB) (hc : cN < 14) (hnm : zNm c m) (l1 : (-10000000) ≤ x1) (l2 : x1 ≤ x2) (l3 : x2 ≤ 10000000) : zTS cF cc (cN + 1) (inp + 1) nF (upd nN cN.toNatClampNeg c) stp mst prc (upd al cN.toNatClampNeg (-1)) (upd (upd made (2 * cN + 0).toNatClampNeg (-1)) (2 * cN + 1).toNatClampNeg (-1)) (upd (upd amt (2 * cN + 0).toNatClampNeg x1) (2 * cN + 1).toNatClampNeg x2) (upd op cN.toNatClampNeg 0) (upd fx cN.toNatClampNeg (-1)) (upd jn cN.toNatClampNeg cN) (upd lets cN.toNatClampNeg 0) mF (upd mN 1 (cN + 1)) mNF (upd mNN (14 + cN).toNatClampNeg m) mS mM mC (upd mW (14 + cN).toNatClampNeg (-1)) mCst (upd mO (14 + cN).toNatClampNeg 0) (upd m1 (14 + cN).toNatClampNeg (-1)) (upd m2 (14 + cN).toNatClampNeg (-1)) (upd mX (14 + cN).toNatClampNeg (-1)) (upd mG (14 + cN).toNatClampNeg cN) (vp_updL mA (14 + cN).toNatClampNeg x1.toInt64) (vp_updL mB (14 + cN).toNatClampNeg x2.toInt64) ∧ zFR mF mN mNF mNN mS mM mC mW mCst mO m1 m2 mX mG mA mB mF (upd mN 1 (cN + 1)) mNF (upd mNN (14 + cN).toNatClampNeg m) mS mM mC (upd mW (14 + cN).toNatClampNeg (-1)) mCst (upd mO (14 + cN).toNatClampNeg 0) (upd m1 (14 + cN).toNatClampNeg (-1)) (upd m2 (14 + cN).toNatClampNeg (-1)) (upd mX (14 + cN).toNatClampNeg (-1)) (upd mG (14 + cN).toNatClampNeg cN) (vp_updL mA (14 + cN).toNatClampNeg x1.toInt64) (vp_updL mB (14 + cN).toNatClampNeg x2.toInt64) := by
  obtain ⟨hF, hN, hC, hI, hfm, hnu, hgr⟩ := h
  have h14 : 0 ≤ 14 + cN := by grind
  have hz : zDeep 0 cN (upd (upd made (2 * cN + 0).toNatClampNeg (-1)) (2 * cN + 1).toNatClampNeg (-1)) lets = 0 := rfl
  have hnu' := zNu_add (w := 0) (p1 := -1) (p2 := -1) (x1 := x1) (x2 := x2) ⟨by decide, by decide⟩ ⟨hN.2.1, hc⟩ hF.2.1 hnu hnm ⟨by decide, by decide⟩ ⟨by decide, by grind⟩ ⟨by decide, by grind⟩ ⟨l1, by grind⟩ ⟨by grind, l3⟩ (fun _ => ⟨rfl, rfl, l2⟩) (fun b hb => zup h14 hb) (fun b hb => zup h14 hb)
  rw [hz] at hnu'
  refine ⟨⟨hF, ⟨rfl, by grind, by grind⟩, hC, ?_, hfm, hnu', zGr_add ⟨by decide, by decide⟩ ⟨hN.2.1, hc⟩ hgr⟩, ⟨rfl, rfl, (fun _ _ => rfl), (zK14_up ⟨hN.2.1, hc⟩), (fun _ _ => rfl), (fun _ _ => rfl), (fun _ _ => rfl), (zK14_up ⟨hN.2.1, hc⟩), rfl, (zK14_up ⟨hN.2.1, hc⟩), (zK14_up ⟨hN.2.1, hc⟩), (zK14_up ⟨hN.2.1, hc⟩), (zK14_up ⟨hN.2.1, hc⟩), (zK14_up ⟨hN.2.1, hc⟩), (zL14_up ⟨hN.2.1, hc⟩), (zL14_up ⟨hN.2.1, hc⟩)⟩⟩
  rw [zCnt_add ⟨hN.2.1, hc⟩, if_pos rfl, hI]
theorem zTS_fix {cF cc cN inp : Int32} {nF nN stp mst prc al made amt op fx jn lets : Nat → Int32} {mF mN mNF mNN mS mM mC mW mCst mO m1 m2 mX mG : Nat → Int32} {mA mB : Nat → Int64} {i x : Int32} (h : zTS cF cc cN inp nF nN stp mst prc al made amt op fx jn lets mF mN mNF mNN mS mM mC mW mCst mO m1 m2 mX mG mA mB) (hi : 0 ≤ i ∧ i < cN) (hx : 0 ≤ x ∧ x < cF) : zTS cF cc cN inp nF nN stp mst prc al made amt op (upd fx i.toNatClampNeg x) jn lets mF mN mNF mNN mS mM mC mW mCst mO m1 m2 (upd mX (14 + i).toNatClampNeg x) mG mA mB ∧ zFR mF mN mNF mNN mS mM mC mW mCst mO m1 m2 mX mG mA mB mF mN mNF mNN mS mM mC mW mCst mO m1 m2 (upd mX (14 + i).toNatClampNeg x) mG mA mB := by
  obtain ⟨hF, hN, hC, hI, hfm, hnu, hgr⟩ := h
  exact ⟨⟨hF, hN, hC, hI, hfm, zNu_fix ⟨by decide, by decide⟩ hN.2.2 hi hx hnu, hgr⟩, ⟨rfl, rfl, (fun _ _ => rfl), (fun _ _ => rfl), (fun _ _ => rfl), (fun _ _ => rfl), (fun _ _ => rfl), (fun _ _ => rfl), rfl, (fun _ _ => rfl), (fun _ _ => rfl), (fun _ _ => rfl), (zK14_up ⟨hi.1, by grind⟩), (fun _ _ => rfl), (fun _ _ => rfl), (fun _ _ => rfl)⟩⟩
theorem zTS_alw {cF cc cN inp : Int32} {nF nN stp mst prc al made amt op fx jn lets : Nat → Int32} {mF mN mNF mNN mS mM mC mW mCst mO m1 m2 mX mG : Nat → Int32} {mA mB : Nat → Int64} {i x : Int32} (h : zTS cF cc cN inp nF nN stp mst prc al made amt op fx jn lets mF mN mNF mNN mS mM mC mW mCst mO m1 m2 mX mG mA mB) (hi : 0 ≤ i ∧ i < cN) (hx : 0 ≤ x ∧ x ≤ 1000000) : zTS cF cc cN inp nF nN stp mst prc (upd al i.toNatClampNeg x) made amt op fx jn lets mF mN mNF mNN mS mM mC (upd mW (14 + i).toNatClampNeg x) mCst mO m1 m2 mX mG mA mB ∧ zFR mF mN mNF mNN mS mM mC mW mCst mO m1 m2 mX mG mA mB mF mN mNF mNN mS mM mC (upd mW (14 + i).toNatClampNeg x) mCst mO m1 m2 mX mG mA mB := by
  obtain ⟨hF, hN, hC, hI, hfm, hnu, hgr⟩ := h
  exact ⟨⟨hF, hN, hC, hI, hfm, zNu_allow ⟨by decide, by decide⟩ hN.2.2 hi hx hnu, hgr⟩, ⟨rfl, rfl, (fun _ _ => rfl), (fun _ _ => rfl), (fun _ _ => rfl), (fun _ _ => rfl), (fun _ _ => rfl), (zK14_up ⟨hi.1, by grind⟩), rfl, (fun _ _ => rfl), (fun _ _ => rfl), (fun _ _ => rfl), (fun _ _ => rfl), (fun _ _ => rfl), (fun _ _ => rfl), (fun _ _ => rfl)⟩⟩
theorem zTS_grp {cF cc cN inp : Int32} {nF nN stp mst prc al made amt op fx jn lets : Nat → Int32} {mF mN mNF mNN mS mM mC mW mCst mO m1 m2 mX mG : Nat → Int32} {mA mB : Nat → Int64} {J G : Nat → Int32} {i j : Int32} (h : zTS cF cc cN inp nF nN stp mst prc al made amt op fx jn lets mF mN mNF mNN mS mM mC mW mCst mO m1 m2 mX mG mA mB) (hi : 0 ≤ i ∧ i < cN) (hj : 0 ≤ j ∧ j < cN) (hJ : ∀ x : Int32, 0 ≤ x → x < cN → J x.toNatClampNeg = if jn x.toNatClampNeg = jn j.toNatClampNeg then jn i.toNatClampNeg else jn x.toNatClampNeg) (hG : zMg cN i j mG G) : zTS cF cc cN inp nF nN stp mst prc al made amt op fx J lets mF mN mNF mNN mS mM mC mW mCst mO m1 m2 mX G mA mB ∧ zFR mF mN mNF mNN mS mM mC mW mCst mO m1 m2 mX mG mA mB mF mN mNF mNN mS mM mC mW mCst mO m1 m2 mX G mA mB := by
  obtain ⟨hF, hN, hC, hI, hfm, hnu, hgr⟩ := h
  exact ⟨⟨hF, hN, hC, hI, hfm, hnu, zGr_merge hN.2.2 hi hj hgr hJ hG⟩, ⟨rfl, rfl, (fun _ _ => rfl), (fun _ _ => rfl), (fun _ _ => rfl), (fun _ _ => rfl), (fun _ _ => rfl), (fun _ _ => rfl), rfl, (fun _ _ => rfl), (fun _ _ => rfl), (fun _ _ => rfl), (fun _ _ => rfl), hG.2, (fun _ _ => rfl), (fun _ _ => rfl)⟩⟩
/-! which words begin a STATEMENT, and when there is no more room -/
noncomputable def zBeg (o : Int32) : Prop := o = 0 ∨ o = 4 ∨ o = 5 ∨ o = 6 ∨ o = 9 ∨ o = 10 ∨ o = 11
theorem zStarts_y {o : Int32} (h : zBeg o) : fn_X5_startsStatement o = some 1 ∧ fn_X12_isBeginning o = some 1 := by
  rcases h with rfl | rfl | rfl | rfl | rfl | rfl | rfl <;> exact ⟨by decide +kernel, by decide +kernel⟩
theorem zStarts_n {o : Int32} (h : ¬ zBeg o) : fn_X5_startsStatement o = some 0 ∧ fn_X12_isBeginning o = some 0 := by
  unfold zBeg at h
  unfold fn_X5_startsStatement fn_X12_isBeginning
  grind
noncomputable def zFull (p o cF cN : Int32) : Prop := p = 40 ∨ o = 0 ∧ cF = 4 ∨ (o = 5 ∨ o = 6) ∧ cN = 14
theorem zIsFull {o cF cN : Int32} (hF : 0 ≤ cF ∧ cF ≤ 4) (hN : 0 ≤ cN ∧ cN ≤ 14) : fn_X5_isFull o cF cN = some (if o = 0 ∧ cF = 4 ∨ (o = 5 ∨ o = 6) ∧ cN = 14 then 1 else 0) := by
  unfold fn_X5_isFull zj
  dsimp only
  grind
