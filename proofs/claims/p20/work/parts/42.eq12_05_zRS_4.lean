set_option maxRecDepth 100000 in
set_option maxHeartbeats 2000000 in
/-- no room is left -/
theorem zRS_4 {p n a e k s v o bg wa : Int32} {wv0 : Int64} {f g tab : Nat → Int32} {mF mN mNF mNN mS mM mC mW mCst mO m1 m2 mX mG : Nat → Int32} {mA mB : Nat → Int64} (hn : n ≤ 1200) (ha : 0 ≤ a ∧ a ≤ n) (hT : (∀ k : Nat, k < 71 → tab k = zTab k)) (T : zTok n f g a e k s v o) (h : zBeg o) (hf : zFull p o (mF 1) (mN 1)) : fn_X12_readsStatement p n a bg 0 wa 1 wv0 g tab mF mN mNF mNN mS mM mC mW mCst mO m1 m2 mX mG mA mB = some (wv0, e, s, 4, s, mF, mN, mNF, mNN, mS, mM, mC, mW, mCst, mO, m1, m2, mX, mG, mA, mB) := by
  have hg2 : ∀ {ρ : Type} (e : Option ρ), zg 1 2 e = e := fun e => zg_in 2 (by decide +kernel) ⟨by decide, by decide⟩ e
  have g4 : fn_X12_goesWell 4 = some 0 := rfl
  have h10 : ¬ (1 : Int32) = 0 := by decide
  have k1 := zTok_k1 T (zTok_o T (zBeg_n h)).1
  obtain ⟨w, hw, hc⟩ := zWordM (bg := bg) (wa := wa) hn ha T
  obtain ⟨r, hr, hrr⟩ := zOwnT hn ha hT T k1
  have er : r = o := by
    rcases hrr with ⟨_, q⟩ | ⟨q, _⟩
    · exact q
    · exact absurd ((zTok_o T (zBeg_n h)).1.symm.trans q) (by decide)
  subst er
  have hb2 := (zStarts_y h).2
  unfold fn_X12_readsStatement
  rw [hw]
  rcases hc with ⟨c, rfl⟩ | ⟨c, rfl⟩
  · simp only [zb_some, zj, zGw_0, hr, hb2, zFl_0, g4, if_neg h10, if_true, hg2, zn01.2]
    unfold zFull at hf
    grind
  · exact absurd k1 c
