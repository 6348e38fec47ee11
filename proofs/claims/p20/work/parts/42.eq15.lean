/-! task() of both: what comes to be at hand -/
noncomputable def zRR2 (hh ba bw : Int32) (mH mRf : Nat → Int32) (mF mN mNF mNN mS mM mC mW mCst mO m1 m2 mX mG : Nat → Int32) (mA mB : Nat → Int64) (r : Int32 × Int32 × Int32 × Int32 × Int32 × Int32 × Int32 × Int32 × Int32 × Int32 × Int32 × Int32 × Int32 × Int32 × (Nat → Int32) × (Nat → Int32) × (Nat → Int32) × (Nat → Int32) × (Nat → Int32) × (Nat → Int32) × (Nat → Int32) × (Nat → Int32) × (Nat → Int32) × (Nat → Int32) × (Nat → Int32) × (Nat → Int32)) (q : Int32 × Int32 × Int32 × Int64 × Int32 × Int32 × Int32 × Int32 × Int32 × Int32 × Int32 × Int32 × Int32 × Int32 × (Nat → Int32) × (Nat → Int32) × (Nat → Int32) × (Nat → Int32) × (Nat → Int32) × (Nat → Int32) × (Nat → Int32) × (Nat → Int32) × (Nat → Int32) × (Nat → Int32) × (Nat → Int32) × (Nat → Int32) × (Nat → Int32) × (Nat → Int32) × (Nat → Int64) × (Nat → Int64) × (Nat → Int32) × (Nat → Int32)) : Prop :=
  (r.1 = 0 ∧ q.1 = (-1) ∧ q.2.2.2.2.1 = r.2.2.1 ∧ q.2.2.2.2.2.2.1 = r.2.2.2.1 ∧ zFR mF mN mNF mNN mS mM mC mW mCst mO m1 m2 mX mG mA mB q.2.2.2.2.2.2.2.2.2.2.2.2.2.2.1 q.2.2.2.2.2.2.2.2.2.2.2.2.2.2.2.1 q.2.2.2.2.2.2.2.2.2.2.2.2.2.2.2.2.2.1 q.2.2.2.2.2.2.2.2.2.2.2.2.2.2.2.2.2.2.1 q.2.2.2.2.2.2.2.2.2.2.2.2.2.2.2.2.2.2.2.1 q.2.2.2.2.2.2.2.2.2.2.2.2.2.2.2.2.2.2.2.2.1 q.2.2.2.2.2.2.2.2.2.2.2.2.2.2.2.2.2.2.2.2.2.1 q.2.2.2.2.2.2.2.2.2.2.2.2.2.2.2.2.2.2.2.2.2.2.1 q.2.2.2.2.2.2.2.2.2.2.2.2.2.2.2.2.1 q.2.2.2.2.2.2.2.2.2.2.2.2.2.2.2.2.2.2.2.2.2.2.2.1 q.2.2.2.2.2.2.2.2.2.2.2.2.2.2.2.2.2.2.2.2.2.2.2.2.1 q.2.2.2.2.2.2.2.2.2.2.2.2.2.2.2.2.2.2.2.2.2.2.2.2.2.1 q.2.2.2.2.2.2.2.2.2.2.2.2.2.2.2.2.2.2.2.2.2.2.2.2.2.2.1 q.2.2.2.2.2.2.2.2.2.2.2.2.2.2.2.2.2.2.2.2.2.2.2.2.2.2.2.1 q.2.2.2.2.2.2.2.2.2.2.2.2.2.2.2.2.2.2.2.2.2.2.2.2.2.2.2.2.1 q.2.2.2.2.2.2.2.2.2.2.2.2.2.2.2.2.2.2.2.2.2.2.2.2.2.2.2.2.2.1 ∧ q.2.2.2.2.2.2.2.2.2.2.2.2.2.2.2.2.2.2.2.2.2.2.2.2.2.2.2.2.2.2.1 = mH ∧ q.2.2.2.2.2.1 = hh ∧ q.2.2.2.2.2.2.2.2.1 = ba ∧ q.2.2.2.2.2.2.2.2.2.1 = bw ∧ q.2.2.2.2.2.2.2.2.2.2.2.2.2.2.2.2.2.2.2.2.2.2.2.2.2.2.2.2.2.2.2 = upd mRf 1 (mRf 1 + 1))
  ∨ (r.1 = 1 ∧ q.1 = r.2.2.2.2.2.2.1 ∧ q.2.2.2.2.1 = 0 ∧ q.2.2.2.2.2.2.1 = (-1) ∧ r.2.2.1 = 0 ∧ r.2.2.2.1 = (-1) ∧ 0 < r.2.2.2.2.2.2.1 ∧ zTN r.2.2.2.2.1 r.2.2.2.2.2.1 r.2.2.2.2.2.2.1 r.2.2.2.2.2.2.2.1 r.2.2.2.2.2.2.2.2.2.2.2.2.2.2.1 r.2.2.2.2.2.2.2.2.2.2.2.2.2.2.2.1 r.2.2.2.2.2.2.2.2.2.2.2.2.2.2.2.2.1 r.2.2.2.2.2.2.2.2.2.2.2.2.2.2.2.2.2.1 r.2.2.2.2.2.2.2.2.2.2.2.2.2.2.2.2.2.2.1 r.2.2.2.2.2.2.2.2.2.2.2.2.2.2.2.2.2.2.2.1 r.2.2.2.2.2.2.2.2.2.2.2.2.2.2.2.2.2.2.2.2.1 r.2.2.2.2.2.2.2.2.2.2.2.2.2.2.2.2.2.2.2.2.2.1 r.2.2.2.2.2.2.2.2.2.2.2.2.2.2.2.2.2.2.2.2.2.2.1 r.2.2.2.2.2.2.2.2.2.2.2.2.2.2.2.2.2.2.2.2.2.2.2.1 r.2.2.2.2.2.2.2.2.2.2.2.2.2.2.2.2.2.2.2.2.2.2.2.2.1 r.2.2.2.2.2.2.2.2.2.2.2.2.2.2.2.2.2.2.2.2.2.2.2.2.2 q.2.2.2.2.2.2.2.2.2.2.2.2.2.2.1 q.2.2.2.2.2.2.2.2.2.2.2.2.2.2.2.1 q.2.2.2.2.2.2.2.2.2.2.2.2.2.2.2.2.2.1 q.2.2.2.2.2.2.2.2.2.2.2.2.2.2.2.2.2.2.1 q.2.2.2.2.2.2.2.2.2.2.2.2.2.2.2.2.2.2.2.1 q.2.2.2.2.2.2.2.2.2.2.2.2.2.2.2.2.2.2.2.2.1 q.2.2.2.2.2.2.2.2.2.2.2.2.2.2.2.2.2.2.2.2.2.1 q.2.2.2.2.2.2.2.2.2.2.2.2.2.2.2.2.2.2.2.2.2.2.1 q.2.2.2.2.2.2.2.2.2.2.2.2.2.2.2.2.1 q.2.2.2.2.2.2.2.2.2.2.2.2.2.2.2.2.2.2.2.2.2.2.2.1 q.2.2.2.2.2.2.2.2.2.2.2.2.2.2.2.2.2.2.2.2.2.2.2.2.1 q.2.2.2.2.2.2.2.2.2.2.2.2.2.2.2.2.2.2.2.2.2.2.2.2.2.1 q.2.2.2.2.2.2.2.2.2.2.2.2.2.2.2.2.2.2.2.2.2.2.2.2.2.2.1 q.2.2.2.2.2.2.2.2.2.2.2.2.2.2.2.2.2.2.2.2.2.2.2.2.2.2.2.1 q.2.2.2.2.2.2.2.2.2.2.2.2.2.2.2.2.2.2.2.2.2.2.2.2.2.2.2.2.1 q.2.2.2.2.2.2.2.2.2.2.2.2.2.2.2.2.2.2.2.2.2.2.2.2.2.2.2.2.2.1 ∧ fn_X12_beginsChoice (q.2.2.2.2.2.2.2.2.2.2.2.2.2.2.2.1) mH (q.2.2.2.2.2.2.2.2.2.2.2.2.2.2.2.2.2.2.2.2.2.2.2.2.2.2.1) (q.2.2.2.2.2.2.2.2.2.2.2.2.2.2.2.2.2.2.2.2.2.2.2.2.2.2.2.1) = some (q.2.2.2.2.2.1, q.2.2.2.2.2.2.2.2.2.2.2.2.2.2.2.2.2.2.2.2.2.2.2.2.2.2.2.2.2.2.1) ∧ q.2.2.2.2.2.2.2.2.1 = (-1) ∧ q.2.2.2.2.2.2.2.2.2.1 = (-1) ∧ q.2.2.2.2.2.2.2.2.2.2.2.2.2.2.2.2.2.2.2.2.2.2.2.2.2.2.2.2.2.2.2 = mRf)
theorem zRef1b {f20 : Nat → Int32} {x : Int32 × (Nat → Int32)} (h : fn_X12_refuses 1 f20 = some x) : x.1 = (-1) ∧ x.2 = upd f20 1 (f20 1 + 1) := by
  unfold fn_X12_refuses at h
  obtain ⟨-, h⟩ := zg_s h
  rw [← Option.some.inj h, zn01.2]
  exact ⟨rfl, rfl⟩
set_option maxRecDepth 100000 in
set_option maxHeartbeats 4000000 in
theorem zStop12b {n v0_38 v0_58 v0_59 : Int32} {g tab f19 f20 : Nat → Int32} {n2 : Nat} {cnt a bg w wa : Int32} {wv : Int64} {mF mN mNF mNN mS mM mC mW mCst mO m1 m2 mX mG : Nat → Int32} {mA mB : Nat → Int64} {q : Int32 × Int32 × Int32 × Int64 × Int32 × Int32 × Int32 × Int32 × Int32 × Int32 × Int32 × Int32 × Int32 × Int32 × (Nat → Int32) × (Nat → Int32) × (Nat → Int32) × (Nat → Int32) × (Nat → Int32) × (Nat → Int32) × (Nat → Int32) × (Nat → Int32) × (Nat → Int32) × (Nat → Int32) × (Nat → Int32) × (Nat → Int32) × (Nat → Int32) × (Nat → Int32) × (Nat → Int64) × (Nat → Int64) × (Nat → Int32) × (Nat → Int32)} (hw : ¬ w = 0) (h : zl (zB12 n v0_38 v0_58 v0_59 g tab f19 f20) n2 (cnt, wv, a, bg, w, wa, mF, mNF, mS, mM, mC, mN, mNN, mO, m1, m2, mA, mB, mCst, mX, mW, mG) = some q) : q.1 = (-1) ∧ q.2.2.2.2.1 = w ∧ q.2.2.2.2.2.2.1 = wa ∧ zFR mF mN mNF mNN mS mM mC mW mCst mO m1 m2 mX mG mA mB q.2.2.2.2.2.2.2.2.2.2.2.2.2.2.1 q.2.2.2.2.2.2.2.2.2.2.2.2.2.2.2.1 q.2.2.2.2.2.2.2.2.2.2.2.2.2.2.2.2.2.1 q.2.2.2.2.2.2.2.2.2.2.2.2.2.2.2.2.2.2.1 q.2.2.2.2.2.2.2.2.2.2.2.2.2.2.2.2.2.2.2.1 q.2.2.2.2.2.2.2.2.2.2.2.2.2.2.2.2.2.2.2.2.1 q.2.2.2.2.2.2.2.2.2.2.2.2.2.2.2.2.2.2.2.2.2.1 q.2.2.2.2.2.2.2.2.2.2.2.2.2.2.2.2.2.2.2.2.2.2.1 q.2.2.2.2.2.2.2.2.2.2.2.2.2.2.2.2.1 q.2.2.2.2.2.2.2.2.2.2.2.2.2.2.2.2.2.2.2.2.2.2.2.1 q.2.2.2.2.2.2.2.2.2.2.2.2.2.2.2.2.2.2.2.2.2.2.2.2.1 q.2.2.2.2.2.2.2.2.2.2.2.2.2.2.2.2.2.2.2.2.2.2.2.2.2.1 q.2.2.2.2.2.2.2.2.2.2.2.2.2.2.2.2.2.2.2.2.2.2.2.2.2.2.1 q.2.2.2.2.2.2.2.2.2.2.2.2.2.2.2.2.2.2.2.2.2.2.2.2.2.2.2.1 q.2.2.2.2.2.2.2.2.2.2.2.2.2.2.2.2.2.2.2.2.2.2.2.2.2.2.2.2.1 q.2.2.2.2.2.2.2.2.2.2.2.2.2.2.2.2.2.2.2.2.2.2.2.2.2.2.2.2.2.1 ∧ q.2.2.2.2.2.2.2.2.2.2.2.2.2.2.2.2.2.2.2.2.2.2.2.2.2.2.2.2.2.2.1 = f19 ∧ q.2.2.2.2.2.1 = v0_38 ∧ q.2.2.2.2.2.2.2.2.1 = v0_58 ∧ q.2.2.2.2.2.2.2.2.2.1 = v0_59 ∧ q.2.2.2.2.2.2.2.2.2.2.2.2.2.2.2.2.2.2.2.2.2.2.2.2.2.2.2.2.2.2.2 = upd f20 1 (f20 1 + 1) := by
  cases n2 with
  | zero => exact (zl_0 h).elim
  | succ n2 =>
    have h := zl_s rfl h
    unfold zB12 at h
    simp only [zb_some, zj, zGw_n hw, if_true, if_neg hw] at h
    obtain ⟨x, hx, h⟩ := zb_s h
    have hx1 := zRef1b hx
    rw [← Option.some.inj h]
    exact ⟨hx1.1, rfl, rfl, zFR_rf, rfl, rfl, rfl, rfl, hx1.2⟩
set_option maxRecDepth 100000 in
set_option maxHeartbeats 8000000 in
theorem zLoop2 {n v0_38 v0_58 v0_59 : Int32} {f g own tab f19 f20 : Nat → Int32} {oF oN oNF oNN oS oM oC oW oCst oO o1 o2 oX oG : Nat → Int32} {oA oB : Nat → Int64} {r : Int32 × Int32 × Int32 × Int32 × Int32 × Int32 × Int32 × Int32 × Int32 × Int32 × Int32 × Int32 × Int32 × Int32 × (Nat → Int32) × (Nat → Int32) × (Nat → Int32) × (Nat → Int32) × (Nat → Int32) × (Nat → Int32) × (Nat → Int32) × (Nat → Int32) × (Nat → Int32) × (Nat → Int32) × (Nat → Int32) × (Nat → Int32)} {q : Int32 × Int32 × Int32 × Int64 × Int32 × Int32 × Int32 × Int32 × Int32 × Int32 × Int32 × Int32 × Int32 × Int32 × (Nat → Int32) × (Nat → Int32) × (Nat → Int32) × (Nat → Int32) × (Nat → Int32) × (Nat → Int32) × (Nat → Int32) × (Nat → Int32) × (Nat → Int32) × (Nat → Int32) × (Nat → Int32) × (Nat → Int32) × (Nat → Int32) × (Nat → Int32) × (Nat → Int64) × (Nat → Int64) × (Nat → Int32) × (Nat → Int32)} (hn : 0 ≤ n ∧ n ≤ 1200) (ht : zTp f g) (ho : ∀ w : Nat, w < 13 → own w = zOwT w) (hT : (∀ k : Nat, k < 71 → tab k = zTab k)) : ∀ (n1 n2 : Nat) (cnt got e k s v o a bg : Int32) (wv : Int64) (cF cc cN inp : Int32) (nF nN stp mst prc al made amt op fx jn lets : Nat → Int32) (mF mN mNF mNN mS mM mC mW mCst mO m1 m2 mX mG : Nat → Int32) (mA mB : Nat → Int64), (0 ≤ cnt ∧ cnt ≤ 40) → (0 ≤ a ∧ a ≤ n) → zTok n f g a e k s v o → zTS cF cc cN inp nF nN stp mst prc al made amt op fx jn lets mF mN mNF mNN mS mM mC mW mCst mO m1 m2 mX mG mA mB → zFR oF oN oNF oNN oS oM oC oW oCst oO o1 o2 oX oG oA oB mF mN mNF mNN mS mM mC mW mCst mO m1 m2 mX mG mA mB → zl (zB5 n n f own) n1 (cnt, got, 0, (-1), cF, cc, e, k, s, v, o, cN, inp, nF, stp, mst, prc, nN, op, fx, al, lets, jn, made, amt) = some r → zl (zB12 n v0_38 v0_58 v0_59 g tab f19 f20) n2 (cnt, wv, a, bg, 0, (-1), mF, mNF, mS, mM, mC, mN, mNN, mO, m1, m2, mA, mB, mCst, mX, mW, mG) = some q → zRR2 v0_38 v0_58 v0_59 f19 f20 oF oN oNF oNN oS oM oC oW oCst oO o1 o2 oX oG oA oB r q := by
  intro n1
  induction n1 with
  | zero => intro n2 cnt got e k s v o a bg wv cF cc cN inp nF nN stp mst prc al made amt op fx jn lets mF mN mNF mNN mS mM mC mW mCst mO m1 m2 mX mG mA mB _ _ _ _ _ h; exact (zl_0 h).elim
  | succ n1 ih =>
    intro n2 cnt got e k s v o a bg wv cF cc cN inp nF nN stp mst prc al made amt op fx jn lets mF mN mNF mNN mS mM mC mW mCst mO m1 m2 mX mG mA mB hc ha T hR hfr0 h1 h2
    cases n2 with
    | zero => exact (zl_0 h2).elim
    | succ n2 =>
      have h1 := zl_s rfl h1
      have h2 := zl_s rfl h2
      have hR0 := hR
      obtain ⟨hF, hN, hC, hI, hfm, hnu, hgr⟩ := hR
      have h10 : ¬ (1 : Int32) = 0 := by decide
      have h40 : ¬ 40 < cnt := by grind
      have hz0 := zTok_0 ht ha T
      have hb := zTok_b ha T
      unfold zB5 at h1
      unfold zB12 at h2
      simp only [zj, if_neg h40] at h1
      simp only [zb_some, zj, zGw_0, if_neg h10, zHereT hn.2 ha T] at h2
      by_cases hk : k = 0
      · rw [if_pos hk] at h1
        simp only [hz0.mpr hk, if_true, zn01.2, zn01.1] at h2
        have st5 : fn_X5_stopAt 4 n = some (0, 4, n) := rfl
        simp only [st5, zb_some, if_true, if_neg h10] at h1
        by_cases z : mF 1 = 0 ∨ mN 1 = 0
        · have e1 : r.1 = 0 ∧ r.2.2.1 = 4 ∧ r.2.2.2.1 = n := by
            by_cases z1 : cF ≤ 0
            · rw [if_pos z1] at h1
              rw [← Option.some.inj h1]
              exact ⟨rfl, rfl, rfl⟩
            · rw [if_neg z1, if_pos (by grind)] at h1
              rw [← Option.some.inj h1]
              exact ⟨rfl, rfl, rfl⟩
          have h44 : ¬ (4 : Int32) = 0 := by decide
          have e2 : q.1 = (-1) ∧ q.2.2.2.2.1 = 4 ∧ q.2.2.2.2.2.2.1 = n ∧ zFR oF oN oNF oNN oS oM oC oW oCst oO o1 o2 oX oG oA oB q.2.2.2.2.2.2.2.2.2.2.2.2.2.2.1 q.2.2.2.2.2.2.2.2.2.2.2.2.2.2.2.1 q.2.2.2.2.2.2.2.2.2.2.2.2.2.2.2.2.2.1 q.2.2.2.2.2.2.2.2.2.2.2.2.2.2.2.2.2.2.1 q.2.2.2.2.2.2.2.2.2.2.2.2.2.2.2.2.2.2.2.1 q.2.2.2.2.2.2.2.2.2.2.2.2.2.2.2.2.2.2.2.2.1 q.2.2.2.2.2.2.2.2.2.2.2.2.2.2.2.2.2.2.2.2.2.1 q.2.2.2.2.2.2.2.2.2.2.2.2.2.2.2.2.2.2.2.2.2.2.1 q.2.2.2.2.2.2.2.2.2.2.2.2.2.2.2.2.1 q.2.2.2.2.2.2.2.2.2.2.2.2.2.2.2.2.2.2.2.2.2.2.2.1 q.2.2.2.2.2.2.2.2.2.2.2.2.2.2.2.2.2.2.2.2.2.2.2.2.1 q.2.2.2.2.2.2.2.2.2.2.2.2.2.2.2.2.2.2.2.2.2.2.2.2.2.1 q.2.2.2.2.2.2.2.2.2.2.2.2.2.2.2.2.2.2.2.2.2.2.2.2.2.2.1 q.2.2.2.2.2.2.2.2.2.2.2.2.2.2.2.2.2.2.2.2.2.2.2.2.2.2.2.1 q.2.2.2.2.2.2.2.2.2.2.2.2.2.2.2.2.2.2.2.2.2.2.2.2.2.2.2.2.1 q.2.2.2.2.2.2.2.2.2.2.2.2.2.2.2.2.2.2.2.2.2.2.2.2.2.2.2.2.2.1 ∧ q.2.2.2.2.2.2.2.2.2.2.2.2.2.2.2.2.2.2.2.2.2.2.2.2.2.2.2.2.2.2.1 = f19 ∧ q.2.2.2.2.2.1 = v0_38 ∧ q.2.2.2.2.2.2.2.2.1 = v0_58 ∧ q.2.2.2.2.2.2.2.2.2.1 = v0_59 ∧ q.2.2.2.2.2.2.2.2.2.2.2.2.2.2.2.2.2.2.2.2.2.2.2.2.2.2.2.2.2.2.2 = upd f20 1 (f20 1 + 1) := by
            by_cases z1 : mF 1 = 0
            · simp only [if_pos z1, zFl_0, zb_some, if_neg h44] at h2
              obtain ⟨x, hx, h2⟩ := zb_s h2
              have hx1 := zRef1b hx
              rw [← Option.some.inj h2]
              exact ⟨hx1.1, rfl, rfl, hfr0, rfl, rfl, rfl, rfl, hx1.2⟩
            · simp only [if_neg z1, if_pos (z.resolve_left z1), zFl_0, zb_some, if_neg h44] at h2
              obtain ⟨x, hx, h2⟩ := zb_s h2
              have hx1 := zRef1b hx
              rw [← Option.some.inj h2]
              exact ⟨hx1.1, rfl, rfl, hfr0, rfl, rfl, rfl, rfl, hx1.2⟩
          exact Or.inl ⟨e1.1, e2.1, e2.2.1.trans e1.2.1.symm, e2.2.2.1.trans e1.2.2.symm, e2.2.2.2⟩
        · have z1 : ¬ mF 1 = 0 := fun w => z (Or.inl w)
          have z2 : ¬ mN 1 = 0 := fun w => z (Or.inr w)
          rw [if_neg (by grind), if_neg (by grind)] at h1
          simp only [if_neg z1, if_neg z2, if_true] at h2
          obtain ⟨x, hx, h2⟩ := zb_s h2
          obtain ⟨y, hy, h2⟩ := zb_s h2
          have htn := zTN_of hx hR0 z1 z2
          rw [← Option.some.inj h1, ← Option.some.inj h2]
          exact Or.inr ⟨rfl, htn.2.1.1, rfl, rfl, rfl, rfl, (show 0 < cN by grind), htn, hy, rfl, rfl, rfl⟩
      · rw [if_neg hk] at h1
        have hk' : ¬ zB n g s = (-1) := fun w => hk (hz0.mp w)
        simp only [if_neg hk'] at h2
        obtain ⟨r0, hr0, q0, hq0, hs0, hlt⟩ := zStmt (p := cnt) (got := got) (fk := 0) (fp := -1) (bg := bg) (wa := -1) (wv0 := wv) hn.2 ⟨hb.1, hb.2.1⟩ ht ho hT (zTok_s T) hR0 hc
        simp only [hr0, zb_some] at h1
        simp only [hq0, zb_some] at h2
        rcases hs0 with ⟨g', y, z, b', wv', C, M, rfl, rfl, hy, hts, hfr⟩ | ⟨hst, hfr⟩
        · have hlt := hlt h10
          dsimp only at h1 h2
          rw [if_neg h10] at h1
          exact ih n2 _ _ _ _ _ _ _ _ _ _ _ _ _ _ _ _ _ _ _ _ _ _ _ _ _ _ _ _ _ _ _ _ _ _ _ _ _ _ _ _ _ _ ⟨by grind, by grind⟩ hy.1 hy.2 hts (zFR_tr hfr0 hfr) h1 h2
        · rw [if_pos hst.1] at h1
          have e2 := zStop12b hst.2.1 h2
          rw [← Option.some.inj h1]
          exact Or.inl ⟨rfl, e2.1, e2.2.1.trans hst.2.2.1.symm, e2.2.2.1.trans hst.2.2.2.symm, zFR_tr (zFR_tr hfr0 hfr) e2.2.2.2.1, e2.2.2.2.2⟩
theorem zFR_0 {mF mN mNF mNN mS mM mC mW mCst mO m1 m2 mX mG : Nat → Int32} {mA mB : Nat → Int64} : zFR mF mN mNF mNN mS mM mC mW mCst mO m1 m2 mX mG mA mB (upd mF 1 0) (upd mN 1 0) mNF mNN mS mM mC mW (upd mCst 1 1) mO m1 m2 mX mG mA mB := ⟨rfl, rfl, (fun _ _ => rfl), (fun _ _ => rfl), (fun _ _ => rfl), (fun _ _ => rfl), (fun _ _ => rfl), (fun _ _ => rfl), rfl, (fun _ _ => rfl), (fun _ _ => rfl), (fun _ _ => rfl), (fun _ _ => rfl), (fun _ _ => rfl), (fun _ _ => rfl), (fun _ _ => rfl)⟩
/-- what task() leaves: nothing of a TASK, or one in both, settled -/
noncomputable def zTQ (rdy fo lr ba bw : Int32) (hand rf gof gld gfx rwd : Nat → Int32) (rlo rhi : Nat → Int64) (mHh mBa mBw : Int32) (mH mRf : Nat → Int32) (mF mN mNF mNN mS mM mC mW mCst mO m1 m2 mX mG : Nat → Int32) (mA mB : Nat → Int64) (x : Int32 × Int32 × Int32 × Int32 × Int32 × Int32 × Int32 × Int32 × Int32 × Int32 × Int32 × Int32 × Int32 × Int32 × Int32 × Int32 × Int32 × (Nat → Int32) × (Nat → Int32) × (Nat → Int32) × (Nat → Int32) × (Nat → Int32) × (Nat → Int32) × (Nat → Int32) × (Nat → Int32) × (Nat → Int32) × (Nat → Int32) × (Nat → Int32) × (Nat → Int32) × Int32 × Int32 × Int32 × (Nat → Int32) × (Nat → Int32) × (Nat → Int32) × (Nat → Int64) × (Nat → Int64) × (Nat → Int32) × (Nat → Int32) × Int32 × Int32 × Int32 × Int32 × Int32 × (Nat → Int32)) (y : Int32 × Int32 × Int32 × Int64 × Int32 × Int32 × Int32 × Int32 × Int32 × Int32 × Int32 × Int32 × Int32 × Int32 × (Nat → Int32) × (Nat → Int32) × (Nat → Int32) × (Nat → Int32) × (Nat → Int32) × (Nat → Int32) × (Nat → Int32) × (Nat → Int32) × (Nat → Int32) × (Nat → Int32) × (Nat → Int32) × (Nat → Int32) × (Nat → Int32) × (Nat → Int32) × (Nat → Int64) × (Nat → Int64) × (Nat → Int32) × (Nat → Int32)) : Prop :=
  (x.2.2.1 = 0 ∧ x.2.2.2.1 = 1 ∧ zFR mF mN mNF mNN mS mM mC mW mCst mO m1 m2 mX mG mA mB y.2.2.2.2.2.2.2.2.2.2.2.2.2.2.1 y.2.2.2.2.2.2.2.2.2.2.2.2.2.2.2.1 y.2.2.2.2.2.2.2.2.2.2.2.2.2.2.2.2.2.1 y.2.2.2.2.2.2.2.2.2.2.2.2.2.2.2.2.2.2.1 y.2.2.2.2.2.2.2.2.2.2.2.2.2.2.2.2.2.2.2.1 y.2.2.2.2.2.2.2.2.2.2.2.2.2.2.2.2.2.2.2.2.1 y.2.2.2.2.2.2.2.2.2.2.2.2.2.2.2.2.2.2.2.2.2.1 y.2.2.2.2.2.2.2.2.2.2.2.2.2.2.2.2.2.2.2.2.2.2.1 y.2.2.2.2.2.2.2.2.2.2.2.2.2.2.2.2.1 y.2.2.2.2.2.2.2.2.2.2.2.2.2.2.2.2.2.2.2.2.2.2.2.1 y.2.2.2.2.2.2.2.2.2.2.2.2.2.2.2.2.2.2.2.2.2.2.2.2.1 y.2.2.2.2.2.2.2.2.2.2.2.2.2.2.2.2.2.2.2.2.2.2.2.2.2.1 y.2.2.2.2.2.2.2.2.2.2.2.2.2.2.2.2.2.2.2.2.2.2.2.2.2.2.1 y.2.2.2.2.2.2.2.2.2.2.2.2.2.2.2.2.2.2.2.2.2.2.2.2.2.2.2.1 y.2.2.2.2.2.2.2.2.2.2.2.2.2.2.2.2.2.2.2.2.2.2.2.2.2.2.2.2.1 y.2.2.2.2.2.2.2.2.2.2.2.2.2.2.2.2.2.2.2.2.2.2.2.2.2.2.2.2.2.1 ∧ x.2.2.2.2.2.2.2.2.2.2.2.2.2.2.2.2.2.2.2.2.2.2.2.2.2.2.2.2.2.2.2.2.2.2.2.2.2.2.1 = hand ∧ y.2.2.2.2.2.2.2.2.2.2.2.2.2.2.2.2.2.2.2.2.2.2.2.2.2.2.2.2.2.2.1 = mH ∧ y.2.2.2.2.2.1 = mHh ∧ y.2.2.2.2.2.2.2.2.1 = mBa ∧ y.2.2.2.2.2.2.2.2.2.1 = mBw ∧ x.2.2.2.2.2.2.2.2.2.2.2.2.2.2.2.2.2.2.2.2.2.2.2.2.2.2.2.2.2.2.2.2.2.2.2.2.2.2.2.2.2.2.1 = ba ∧ x.2.2.2.2.2.2.2.2.2.2.2.2.2.2.2.2.2.2.2.2.2.2.2.2.2.2.2.2.2.2.2.2.2.2.2.2.2.2.2.2.2.2.2.1 = bw ∧ x.2.2.2.2.2.2.2.2.2.2.2.2.2.2.2.2.2.2.2.2.2.2.2.2.2.2.2.2.2.2.2.2.2.2.2.2.2.2.2.1 = rdy ∧ x.2.2.2.2.2.2.2.2.2.2.2.2.2.2.2.2.2.2.2.2.2.2.2.2.2.2.2.2.2.2.2.2.2.2.2.2.2.2.2.2.1 = fo ∧ x.2.2.2.2.2.2.2.2.2.2.2.2.2.2.2.2.2.2.2.2.2.2.2.2.2.2.2.2.2.2.2.2.2.2.2.2.2.2.2.2.2.1 = lr ∧ x.2.2.2.2.2.2.2.2.2.2.2.2.2.2.2.2.2.2.2.2.2.2.2.2.2.2.2.2.2.2.2.2.2.2.2.2.2.2.2.2.2.2.2.2 = upd rf 1 (rf 1 + 1) ∧ y.2.2.2.2.2.2.2.2.2.2.2.2.2.2.2.2.2.2.2.2.2.2.2.2.2.2.2.2.2.2.2 = upd mRf 1 (mRf 1 + 1))
  ∨ (x.2.2.1 = 1 ∧ x.2.2.2.1 = 0 ∧ 0 < x.2.2.2.2.2.2.2.2.2.1 ∧ zTN x.2.2.2.2.2.2.2.1 x.2.2.2.2.2.2.2.2.1 x.2.2.2.2.2.2.2.2.2.1 x.2.2.2.2.2.2.2.2.2.2.1 x.2.2.2.2.2.2.2.2.2.2.2.2.2.2.2.2.2.1 x.2.2.2.2.2.2.2.2.2.2.2.2.2.2.2.2.2.2.1 x.2.2.2.2.2.2.2.2.2.2.2.2.2.2.2.2.2.2.2.1 x.2.2.2.2.2.2.2.2.2.2.2.2.2.2.2.2.2.2.2.2.1 x.2.2.2.2.2.2.2.2.2.2.2.2.2.2.2.2.2.2.2.2.2.1 x.2.2.2.2.2.2.2.2.2.2.2.2.2.2.2.2.2.2.2.2.2.2.1 x.2.2.2.2.2.2.2.2.2.2.2.2.2.2.2.2.2.2.2.2.2.2.2.1 x.2.2.2.2.2.2.2.2.2.2.2.2.2.2.2.2.2.2.2.2.2.2.2.2.1 x.2.2.2.2.2.2.2.2.2.2.2.2.2.2.2.2.2.2.2.2.2.2.2.2.2.1 x.2.2.2.2.2.2.2.2.2.2.2.2.2.2.2.2.2.2.2.2.2.2.2.2.2.2.1 x.2.2.2.2.2.2.2.2.2.2.2.2.2.2.2.2.2.2.2.2.2.2.2.2.2.2.2.1 x.2.2.2.2.2.2.2.2.2.2.2.2.2.2.2.2.2.2.2.2.2.2.2.2.2.2.2.2.1 y.2.2.2.2.2.2.2.2.2.2.2.2.2.2.1 y.2.2.2.2.2.2.2.2.2.2.2.2.2.2.2.1 y.2.2.2.2.2.2.2.2.2.2.2.2.2.2.2.2.2.1 y.2.2.2.2.2.2.2.2.2.2.2.2.2.2.2.2.2.2.1 y.2.2.2.2.2.2.2.2.2.2.2.2.2.2.2.2.2.2.2.1 y.2.2.2.2.2.2.2.2.2.2.2.2.2.2.2.2.2.2.2.2.1 y.2.2.2.2.2.2.2.2.2.2.2.2.2.2.2.2.2.2.2.2.2.1 y.2.2.2.2.2.2.2.2.2.2.2.2.2.2.2.2.2.2.2.2.2.2.1 y.2.2.2.2.2.2.2.2.2.2.2.2.2.2.2.2.1 y.2.2.2.2.2.2.2.2.2.2.2.2.2.2.2.2.2.2.2.2.2.2.2.1 y.2.2.2.2.2.2.2.2.2.2.2.2.2.2.2.2.2.2.2.2.2.2.2.2.1 y.2.2.2.2.2.2.2.2.2.2.2.2.2.2.2.2.2.2.2.2.2.2.2.2.2.1 y.2.2.2.2.2.2.2.2.2.2.2.2.2.2.2.2.2.2.2.2.2.2.2.2.2.2.1 y.2.2.2.2.2.2.2.2.2.2.2.2.2.2.2.2.2.2.2.2.2.2.2.2.2.2.2.1 y.2.2.2.2.2.2.2.2.2.2.2.2.2.2.2.2.2.2.2.2.2.2.2.2.2.2.2.2.1 y.2.2.2.2.2.2.2.2.2.2.2.2.2.2.2.2.2.2.2.2.2.2.2.2.2.2.2.2.2.1 ∧ fn_X9_settle (x.2.2.2.2.2.2.2.2.2.1) (x.2.2.2.2.2.2.2.2.2.2.2.2.2.2.2.2.2.2.2.2.2.2.2.2.2.2.2.1) gof gld gfx (x.2.2.2.2.2.2.2.2.2.2.2.2.2.2.2.2.2.2.2.2.2.2.2.2.2.2.1) (x.2.2.2.2.2.2.2.2.2.2.2.2.2.2.2.2.2.2.2.2.2.2.2.2.2.1) (x.2.2.2.2.2.2.2.2.2.2.2.2.2.2.2.2.2.2.2.2.2.2.2.1) (x.2.2.2.2.2.2.2.2.2.2.2.2.2.2.2.2.2.2.2.2.2.2.2.2.1) rlo rhi rwd = some (x.2.2.2.2.2.2.2.2.2.2.2.2.2.2.2.2.2.2.2.2.2.2.2.2.2.2.2.2.2.1, x.2.2.2.2.2.2.2.2.2.2.2.2.2.2.2.2.2.2.2.2.2.2.2.2.2.2.2.2.2.2.1, x.2.2.2.2.2.2.2.2.2.2.2.2.2.2.2.2.2.2.2.2.2.2.2.2.2.2.2.2.2.2.2.1, x.2.2.2.2.2.2.2.2.2.2.2.2.2.2.2.2.2.2.2.2.2.2.2.2.2.2.2.2.2.2.2.2.1, x.2.2.2.2.2.2.2.2.2.2.2.2.2.2.2.2.2.2.2.2.2.2.2.2.2.2.2.2.2.2.2.2.2.1, x.2.2.2.2.2.2.2.2.2.2.2.2.2.2.2.2.2.2.2.2.2.2.2.2.2.2.2.2.2.2.2.2.2.2.1, x.2.2.2.2.2.2.2.2.2.2.2.2.2.2.2.2.2.2.2.2.2.2.2.2.2.2.2.2.2.2.2.2.2.2.2.1, x.2.2.2.2.2.2.2.2.2.2.2.2.2.2.2.2.2.2.2.2.2.2.2.2.2.2.2.2.2.2.2.2.2.2.2.2.1, x.2.2.2.2.2.2.2.2.2.2.2.2.2.2.2.2.2.2.2.2.2.2.2.2.2.2.2.2.2.2.2.2.2.2.2.2.2.1) ∧ fn_X2_fillFree 0 x.2.2.2.2.2.2.2.2.2.2.2.2.2.2.2.2.2.2.2.2.2.2.2.2.2.2.2.2.2.1 hand x.2.2.2.2.2.2.2.2.2.2.2.2.2.2.2.2.2.2.2.2.2.2.2.2.2.2.2.2.2.2.2.2.2.2.1 = some x.2.2.2.2.2.2.2.2.2.2.2.2.2.2.2.2.2.2.2.2.2.2.2.2.2.2.2.2.2.2.2.2.2.2.2.2.2.2.1 ∧ fn_X12_beginsChoice (y.2.2.2.2.2.2.2.2.2.2.2.2.2.2.2.1) mH (y.2.2.2.2.2.2.2.2.2.2.2.2.2.2.2.2.2.2.2.2.2.2.2.2.2.2.1) (y.2.2.2.2.2.2.2.2.2.2.2.2.2.2.2.2.2.2.2.2.2.2.2.2.2.2.2.1) = some (y.2.2.2.2.2.1, y.2.2.2.2.2.2.2.2.2.2.2.2.2.2.2.2.2.2.2.2.2.2.2.2.2.2.2.2.2.2.1) ∧ y.2.2.2.2.2.2.2.2.1 = (-1) ∧ y.2.2.2.2.2.2.2.2.2.1 = (-1) ∧ x.2.2.2.2.2.2.2.2.2.2.2.2.2.2.2.2.2.2.2.2.2.2.2.2.2.2.2.2.2.2.2.2.2.2.2.2.2.2.2.2.2.2.1 = (-1) ∧ x.2.2.2.2.2.2.2.2.2.2.2.2.2.2.2.2.2.2.2.2.2.2.2.2.2.2.2.2.2.2.2.2.2.2.2.2.2.2.2.2.2.2.2.1 = (-1) ∧ x.2.2.2.2.2.2.2.2.2.2.2.2.2.2.2.2.2.2.2.2.2.2.2.2.2.2.2.2.2.2.2.2.2.2.2.2.2.2.2.1 = 0 ∧ x.2.2.2.2.2.2.2.2.2.2.2.2.2.2.2.2.2.2.2.2.2.2.2.2.2.2.2.2.2.2.2.2.2.2.2.2.2.2.2.2.1 = (-1) ∧ x.2.2.2.2.2.2.2.2.2.2.2.2.2.2.2.2.2.2.2.2.2.2.2.2.2.2.2.2.2.2.2.2.2.2.2.2.2.2.2.2.2.1 = 0 ∧ x.2.2.2.2.2.2.2.2.2.2.2.2.2.2.2.2.2.2.2.2.2.2.2.2.2.2.2.2.2.2.2.2.2.2.2.2.2.2.2.2.2.2.2.2 = rf ∧ y.2.2.2.2.2.2.2.2.2.2.2.2.2.2.2.2.2.2.2.2.2.2.2.2.2.2.2.2.2.2.2 = mRf)
set_option maxRecDepth 100000 in
set_option maxHeartbeats 4000000 in
theorem zTaskEq2 {gc gfr gcl mHh mBa mBw mBg : Int32} {nF nN stp mst prc al made amt op fx jn lets gof gfx gld rwd hand mF mN mCst mNF mNN mS mM mC mW mO m1 m2 mX mG mT tab mH mRf rf : Nat → Int32} {rlo rhi mA mB : Nat → Int64} {mWv : Int64} {u w gt rdy fo lr ba bw : Int32} {tp own : Nat → Int32} {x : Int32 × Int32 × Int32 × Int32 × Int32 × Int32 × Int32 × Int32 × Int32 × Int32 × Int32 × Int32 × Int32 × Int32 × Int32 × Int32 × Int32 × (Nat → Int32) × (Nat → Int32) × (Nat → Int32) × (Nat → Int32) × (Nat → Int32) × (Nat → Int32) × (Nat → Int32) × (Nat → Int32) × (Nat → Int32) × (Nat → Int32) × (Nat → Int32) × (Nat → Int32) × Int32 × Int32 × Int32 × (Nat → Int32) × (Nat → Int32) × (Nat → Int32) × (Nat → Int64) × (Nat → Int64) × (Nat → Int32) × (Nat → Int32) × Int32 × Int32 × Int32 × Int32 × Int32 × (Nat → Int32)} {y : Int32 × Int32 × Int32 × Int64 × Int32 × Int32 × Int32 × Int32 × Int32 × Int32 × Int32 × Int32 × Int32 × Int32 × (Nat → Int32) × (Nat → Int32) × (Nat → Int32) × (Nat → Int32) × (Nat → Int32) × (Nat → Int32) × (Nat → Int32) × (Nat → Int32) × (Nat → Int32) × (Nat → Int32) × (Nat → Int32) × (Nat → Int32) × (Nat → Int32) × (Nat → Int32) × (Nat → Int64) × (Nat → Int64) × (Nat → Int32) × (Nat → Int32)} (hl : u = w) (hu : 0 ≤ u ∧ u ≤ 1200) (ht : zTp tp mT) (ho : ∀ w : Nat, w < 13 → own w = zOwT w) (hT : (∀ k : Nat, k < 71 → tab k = zTab k)) (h1 : fn_X11_task u gt tp own nF nN stp mst prc al made amt op fx jn lets gc gfr gcl gof gld gfx rlo rhi rwd hand rdy fo lr ba bw rf = some x) (h2 : fn_X12_task w mBg mWv mHh mBa mBw mF mN mCst mT tab mNF mNN mS mM mC mW mO m1 m2 mX mG mA mB mH mRf = some y) : x.1 = y.1 ∧ x.2.2.2.2.2.1 = y.2.2.2.2.1 ∧ x.2.2.2.2.2.2.1 = y.2.2.2.2.2.2.1 ∧ zTQ rdy fo lr ba bw hand rf gof gld gfx rwd rlo rhi mHh mBa mBw mH mRf mF mN mNF mNN mS mM mC mW mCst mO m1 m2 mX mG mA mB x y := by
  subst hl
  unfold fn_X11_task at h1
  obtain ⟨r, hr, h1⟩ := zb_s h1
  have key : zRR2 mHh mBa mBw mH mRf mF mN mNF mNN mS mM mC mW mCst mO m1 m2 mX mG mA mB r y := by
    unfold fn_X5_read at hr
    have e9 : fn_X9_clear = some (0, 1, 0, 0) := rfl
    simp only [e9, zb_some] at hr
    obtain ⟨z, hz, hr⟩ := zb_s hr
    unfold fn_X10_open at hz
    have hx : (if 0 < (if 1200 < u then 1200 else u) then (if 1200 < u then 1200 else u) else 0) = u := by grind
    simp only [zn, hx] at hz
    obtain ⟨t, hadv, hT1⟩ := zAdv (n := u) (a := 0) (k0 := 0) hu.2 ⟨by decide, hu.1⟩ ht ho ⟨fun q => by grind, fun q => by rw [zK_ahead (0 - 1) (by decide)] at q; grind⟩
    rw [hadv] at hz
    simp only [zb_some] at hz
    rw [← Option.some.inj hz] at hr
    dsimp only at hr
    unfold fn_X12_task at h2
    rw [zn01.2] at h2
    exact zLoop2 hu ht ho hT _ _ _ _ _ _ _ _ _ _ _ _ _ _ _ _ _ _ _ _ _ _ _ _ _ _ _ _ _ _ _ _ _ _ _ _ _ _ _ _ _ _ _ _ ⟨by decide, by decide⟩ ⟨by decide, hu.1⟩ hT1 zTS_0 zFR_0 hr h2
  rcases key with ⟨k1, k2, k3, k4, k5⟩ | ⟨k1, k2, k3, k4, k5, k6, k7, k8, k9, k10, k11, k12⟩
  · rw [if_pos k1] at h1
    obtain ⟨z, hz, h1⟩ := zb_s h1
    unfold fn_X11_refuse at hz
    rw [if_neg (by decide), if_neg (by decide)] at hz
    obtain ⟨-, hz⟩ := zg_s hz
    rw [zn01.2] at hz
    rw [← Option.some.inj h1, ← Option.some.inj hz]
    exact ⟨k2.symm, k3.symm, k4.symm, Or.inl ⟨rfl, rfl, k5.1, rfl, k5.2.1, k5.2.2.1, k5.2.2.2.1, k5.2.2.2.2.1, rfl, rfl, rfl, rfl, rfl, rfl, k5.2.2.2.2.2⟩⟩
  · rw [if_neg (by rw [k1]; decide)] at h1
    obtain ⟨z1, hz1, h1⟩ := zb_s h1
    obtain ⟨z2, hz2, h1⟩ := zb_s h1
    have e3 : fn_X1_forget = some (0, -1) := rfl
    have e4 : fn_X3_forget = some 0 := rfl
    have e5 : fn_X0_forget = some (-1, -1) := rfl
    simp only [e3, e4, e5, zb_some] at h1
    rw [← Option.some.inj h1]
    exact ⟨k2.symm, k5.trans k3.symm, k6.trans k4.symm, Or.inr ⟨rfl, rfl, k7, k8, hz1, hz2, k9, k10, k11, rfl, rfl, rfl, rfl, rfl, rfl, k12⟩⟩
