set_option maxRecDepth 100000 in
set_option maxHeartbeats 2000000 in
theorem zRS_fix {p n a e k s v o bg wa : Int32} {wv0 : Int64} {f g tab : Nat → Int32} {mF mN mNF mNN mS mM mC mW mCst mO m1 m2 mX mG : Nat → Int32} {mA mB : Nat → Int64} (hn : n ≤ 1200) (ha : 0 ≤ a ∧ a ≤ n) (hT : (∀ k : Nat, k < 71 → tab k = zTab k)) (T : zTok n f g a e k s v o) (ho : o = 9) (hf : ¬ zFull p o (mF 1) (mN 1)) : fn_X12_readsStatement p n a bg 0 wa 1 wv0 g tab mF mN mNF mNN mS mM mC mW mCst mO m1 m2 mX mG mA mB = (zb (fn_X12_readsFixed n e s 0 wa 1 g tab mN mNN mF mNF mX) (fun o_1 => (zb (fn_X12_mark 59 n o_1.1 o_1.2.2.1 o_1.2.2.2.1 g) (fun o_2 => (some (wv0, o_2.1, o_1.2.1, o_2.2.1, o_2.2.2, mF, mN, mNF, mNN, mS, mM, mC, mW, mCst, mO, m1, m2, o_1.2.2.2.2, mG, mA, mB)))))) := by
  have hg2 : ∀ {ρ : Type} (e : Option ρ), zg 1 2 e = e := fun e => zg_in 2 (by decide +kernel) ⟨by decide, by decide⟩ e
  have h10 : ¬ (1 : Int32) = 0 := by decide
  subst ho
  have q0 : ¬ (9 : Int32) = 0 := by decide
  have q1 : ¬ (9 : Int32) = 1 := by decide
  have q2 : ¬ (9 : Int32) = 2 := by decide
  have q3 : ¬ (9 : Int32) = 3 := by decide
  have q4 : ¬ (9 : Int32) = 4 := by decide
  have q5 : ¬ (9 : Int32) = 5 := by decide
  have q6 : ¬ (9 : Int32) = 6 := by decide
  have q7 : ¬ (9 : Int32) = 7 := by decide
  have q8 : ¬ (9 : Int32) = 8 := by decide
  have q10 : ¬ (9 : Int32) = 10 := by decide
  have h : zBeg 9 := by unfold zBeg; decide
  have k1 := zTok_k1 T (zTok_o T (zBeg_n h)).1
  obtain ⟨w, hw, hc⟩ := zWordM (bg := bg) (wa := wa) hn ha T
  obtain ⟨r, hr, hrr⟩ := zOwnT hn ha hT T k1
  have er : r = 9 := by
    rcases hrr with ⟨_, q⟩ | ⟨q, _⟩
    · exact q
    · exact absurd ((zTok_o T (zBeg_n h)).1.symm.trans q) (by decide)
  subst er
  have hb2 := (zStarts_y h).2
  have f1 : ¬ p = 40 := fun q => hf (Or.inl q)
  have f2 : ¬ mF 1 = 4 ∨ True := Or.inr trivial
  unfold fn_X12_readsStatement
  rw [hw]
  rcases hc with ⟨c, rfl⟩ | ⟨c, rfl⟩
  · simp only [zb_some, zj, zGw_0, hr, hb2, zn01.2, if_neg h10, if_neg f1, if_true, hg2, if_neg q0, if_neg q1, if_neg q2, if_neg q3, if_neg q4, if_neg q5, if_neg q6, if_neg q7, if_neg q8, if_neg q10]
  · exact absurd k1 c
