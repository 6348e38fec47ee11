set_option maxRecDepth 100000 in
set_option maxHeartbeats 2000000 in
/-- no STATEMENT begins here -/
theorem zRS_1 {p n a e k s v o bg wa : Int32} {wv0 : Int64} {f g tab : Nat → Int32} {mF mN mNF mNN mS mM mC mW mCst mO m1 m2 mX mG : Nat → Int32} {mA mB : Nat → Int64} (hn : n ≤ 1200) (ha : 0 ≤ a ∧ a ≤ n) (hT : (∀ k : Nat, k < 71 → tab k = zTab k)) (T : zTok n f g a e k s v o) (h : ¬ zBeg o) : ∃ z b', fn_X12_readsStatement p n a bg 0 wa 1 wv0 g tab mF mN mNF mNN mS mM mC mW mCst mO m1 m2 mX mG mA mB = some (wv0, z, b', 1, s, mF, mN, mNF, mNN, mS, mM, mC, mW, mCst, mO, m1, m2, mX, mG, mA, mB) := by
  have hg2 : ∀ {ρ : Type} (e : Option ρ), zg 1 2 e = e := fun e => zg_in 2 (by decide +kernel) ⟨by decide, by decide⟩ e
  have g1 : fn_X12_goesWell 1 = some 0 := rfl
  have h10 : ¬ (1 : Int32) = 0 := by decide
  obtain ⟨w, hw, hc⟩ := zWordM (bg := bg) (wa := wa) hn ha T
  unfold fn_X12_readsStatement
  rw [hw]
  rcases hc with ⟨c, rfl⟩ | ⟨c, rfl⟩
  · obtain ⟨r, hr, hrr⟩ := zOwnT hn ha hT T c
    have hb : ¬ zBeg r := by
      rcases hrr with ⟨_, q⟩ | ⟨_, q⟩
      · rw [q]; exact h
      · rw [q]; unfold zBeg; decide
    have hb2 := (zStarts_n hb).2
    refine ⟨e, s, ?_⟩
    simp only [zb_some, zj, zGw_0, hr, hb2, zFl_0, g1, if_neg h10, if_true, hg2, ite_self]
  · refine ⟨s, s, ?_⟩
    simp only [zb_some, zj, g1, if_true, hg2, ite_self]
