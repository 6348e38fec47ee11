theorem zw_zjE {σ ρ : Type} {j j' : σ → Option ρ} {k : (σ → Option ρ) → Option ρ} {P : ρ → Prop} (e : j = j') (h : zw (k j') P) : zw (zj j k) P := by
  subst e
  exact h
theorem zTok_o {n a e k s v o : Int32} {f g : Nat → Int32} (T : zTok n f g a e k s v o) (h : ¬ o = (-1)) : k = 1 ∧ e - s ≤ 6 ∧ zRun n g 1 s e ∧ v.toInt = zCV (zLV g s.toNatClampNeg (zSz s e)) ∧ zOwS v o := by
  obtain ⟨_, _, _, T⟩ := T
  rcases T with ⟨_, _, _, q⟩ | ⟨_, _, _, _, q⟩ | ⟨_, _, _, _, q⟩ | ⟨_, q1, _, q2, q3, q4, q5⟩ | ⟨_, _, _, _, q⟩ | ⟨_, _, _, _, _, _, q⟩
  · exact absurd q h
  · exact absurd q h
  · exact absurd q h
  · exact ⟨q3, q2, q1, q4, q5⟩
  · exact absurd q h
  · exact absurd q h
theorem zBeg_n {o : Int32} (h : zBeg o) : ¬ o = (-1) := by
  rcases h with rfl | rfl | rfl | rfl | rfl | rfl | rfl <;> decide
/-- the reference's own word, where the class has read a word -/
theorem zOwnT {n a e k s v o : Int32} {f g tab : Nat → Int32} (hn : n ≤ 1200) (ha : 0 ≤ a ∧ a ≤ n) (hT : (∀ k : Nat, k < 71 → tab k = zTab k)) (T : zTok n f g a e k s v o) (h : zIsW n g a s) : zw (fn_X12_own e s tab g) (fun r => k = 1 ∧ r = o ∨ k = 4 ∧ r = (-1)) := by
  obtain ⟨b1, b2, b3, b4⟩ := zTok_b ha T
  obtain ⟨hr, hk⟩ := zTok_w T h
  have hs : 0 ≤ s ∧ s ≤ 1200 := ⟨b1, by grind⟩
  have he : 0 ≤ e ∧ e ≤ 1200 := ⟨by grind, by grind⟩
  refine zw_mono (zOwnM he hs b3 hT (fun i hi => zRun_l b1 b3 b4 hn hr.2.1 i hi)) (fun r hw => ?_)
  obtain ⟨_, _, w1, w2⟩ := hw
  rcases hk with ⟨k1, k2, k3, k4⟩ | ⟨k1, k2⟩
  · exact Or.inl ⟨k1, zOwS_un (w2 v k2 k3) k4⟩
  · exact Or.inr ⟨k1, w1 k2⟩
set_option maxRecDepth 100000 in
set_option maxHeartbeats 2000000 in
/-- no STATEMENT begins here -/
theorem zRS_1 {p n a e k s v o bg wa : Int32} {wv0 : Int64} {f g tab : Nat → Int32} {mF mN mNF mNN mS mM mC mW mCst mO m1 m2 mX mG : Nat → Int32} {mA mB : Nat → Int64} (hn : n ≤ 1200) (ha : 0 ≤ a ∧ a ≤ n) (hT : (∀ k : Nat, k < 71 → tab k = zTab k)) (T : zTok n f g a e k s v o) (h : ¬ zBeg o) : ∃ z b', fn_X12_readsStatement p n a bg 0 wa 1 wv0 g tab mF mN mNF mNN mS mM mC mW mCst mO m1 m2 mX mG mA mB = some (wv0, z, b', 1, s, mF, mN, mNF, mNN, mS, mM, mC, mW, mCst, mO, m1, m2, mX, mG, mA, mB) := by
  have hg2 : ∀ {ρ : Type} (e : Option ρ), zg 1 2 e = e := fun e => zg_in 2 (by decide +kernel) ⟨by decide, by decide⟩ e
  have g1 : fn_X12_goesWell 1 = some 0 := rfl
  have h10 : ¬ (1 : Int32) = 0 := by decide
  obtain ⟨w, hw, hc⟩ := zWordM (bg := bg) (wa := wa) hn ha T
  unfold fn_X12_readsStatement
  rw [hw]
  rcases hc with ⟨c, rfl⟩ | ⟨c, rfl⟩
  · obtain ⟨r, hr, hrr⟩ := zOwnT hn ha hT T c
    have hb : ¬ zBeg r := by
      rcases hrr with ⟨_, q⟩ | ⟨_, q⟩
      · rw [q]; exact h
      · rw [q]; unfold zBeg; decide
    have hb2 := (zStarts_n hb).2
    refine ⟨e, s, ?_⟩
    simp only [zb_some, zj, zGw_0, hr, hb2, zFl_0, g1, if_neg h10, if_true, hg2, ite_self]
  · refine ⟨s, s, ?_⟩
    simp only [zb_some, zj, g1, if_true, hg2, ite_self]
set_option maxRecDepth 100000 in
set_option maxHeartbeats 2000000 in
/-- no room is left -/
theorem zRS_4 {p n a e k s v o bg wa : Int32} {wv0 : Int64} {f g tab : Nat → Int32} {mF mN mNF mNN mS mM mC mW mCst mO m1 m2 mX mG : Nat → Int32} {mA mB : Nat → Int64} (hn : n ≤ 1200) (ha : 0 ≤ a ∧ a ≤ n) (hT : (∀ k : Nat, k < 71 → tab k = zTab k)) (T : zTok n f g a e k s v o) (h : zBeg o) (hf : zFull p o (mF 1) (mN 1)) : fn_X12_readsStatement p n a bg 0 wa 1 wv0 g tab mF mN mNF mNN mS mM mC mW mCst mO m1 m2 mX mG mA mB = some (wv0, e, s, 4, s, mF, mN, mNF, mNN, mS, mM, mC, mW, mCst, mO, m1, m2, mX, mG, mA, mB) := by
  have hg2 : ∀ {ρ : Type} (e : Option ρ), zg 1 2 e = e := fun e => zg_in 2 (by decide +kernel) ⟨by decide, by decide⟩ e
  have g4 : fn_X12_goesWell 4 = some 0 := rfl
  have h10 : ¬ (1 : Int32) = 0 := by decide
  have k1 := zTok_k1 T (zTok_o T (zBeg_n h)).1
  obtain ⟨w, hw, hc⟩ := zWordM (bg := bg) (wa := wa) hn ha T
  obtain ⟨r, hr, hrr⟩ := zOwnT hn ha hT T k1
  have er : r = o := by
    rcases hrr with ⟨_, q⟩ | ⟨q, _⟩
    · exact q
    · exact absurd ((zTok_o T (zBeg_n h)).1.symm.trans q) (by decide)
  subst er
  have hb2 := (zStarts_y h).2
  unfold fn_X12_readsStatement
  rw [hw]
  rcases hc with ⟨c, rfl⟩ | ⟨c, rfl⟩
  · simp only [zb_some, zj, zGw_0, hr, hb2, zFl_0, g4, if_neg h10, if_true, hg2, zn01.2]
    unfold zFull at hf
    grind
  · exact absurd k1 c
set_option maxRecDepth 100000 in
set_option maxHeartbeats 2000000 in
theorem zRS_fmt {p n a e k s v o bg wa : Int32} {wv0 : Int64} {f g tab : Nat → Int32} {mF mN mNF mNN mS mM mC mW mCst mO m1 m2 mX mG : Nat → Int32} {mA mB : Nat → Int64} (hn : n ≤ 1200) (ha : 0 ≤ a ∧ a ≤ n) (hT : (∀ k : Nat, k < 71 → tab k = zTab k)) (T : zTok n f g a e k s v o) (ho : o = 0) (hf : ¬ zFull p o (mF 1) (mN 1)) : fn_X12_readsStatement p n a bg 0 wa 1 wv0 g tab mF mN mNF mNN mS mM mC mW mCst mO m1 m2 mX mG mA mB = (zb (fn_X12_readsFormat n e s 0 wa 1 g tab mF mNF mN mNN mS mM mC) (fun o_1 => (zb (fn_X12_mark 59 n o_1.1 o_1.2.2.1 o_1.2.2.2.1 g) (fun o_2 => (some (wv0, o_2.1, o_1.2.1, o_2.2.1, o_2.2.2, o_1.2.2.2.2.1, mN, o_1.2.2.2.2.2.1, mNN, o_1.2.2.2.2.2.2.1, o_1.2.2.2.2.2.2.2.1, o_1.2.2.2.2.2.2.2.2, mW, mCst, mO, m1, m2, mX, mG, mA, mB)))))) := by
  have hg2 : ∀ {ρ : Type} (e : Option ρ), zg 1 2 e = e := fun e => zg_in 2 (by decide +kernel) ⟨by decide, by decide⟩ e
  have h10 : ¬ (1 : Int32) = 0 := by decide
  subst ho
  have q1 : ¬ (0 : Int32) = 1 := by decide
  have q2 : ¬ (0 : Int32) = 2 := by decide
  have q3 : ¬ (0 : Int32) = 3 := by decide
  have q4 : ¬ (0 : Int32) = 4 := by decide
  have q5 : ¬ (0 : Int32) = 5 := by decide
  have q6 : ¬ (0 : Int32) = 6 := by decide
  have q7 : ¬ (0 : Int32) = 7 := by decide
  have q8 : ¬ (0 : Int32) = 8 := by decide
  have q9 : ¬ (0 : Int32) = 9 := by decide
  have q10 : ¬ (0 : Int32) = 10 := by decide
  have h : zBeg 0 := by unfold zBeg; decide
  have k1 := zTok_k1 T (zTok_o T (zBeg_n h)).1
  obtain ⟨w, hw, hc⟩ := zWordM (bg := bg) (wa := wa) hn ha T
  obtain ⟨r, hr, hrr⟩ := zOwnT hn ha hT T k1
  have er : r = 0 := by
    rcases hrr with ⟨_, q⟩ | ⟨q, _⟩
    · exact q
    · exact absurd ((zTok_o T (zBeg_n h)).1.symm.trans q) (by decide)
  subst er
  have hb2 := (zStarts_y h).2
  have f1 : ¬ p = 40 := fun q => hf (Or.inl q)
  have f2 : ¬ mF 1 = 4  := fun q => hf (Or.inr (Or.inl ⟨rfl, q⟩))
  unfold fn_X12_readsStatement
  rw [hw]
  rcases hc with ⟨c, rfl⟩ | ⟨c, rfl⟩
  · simp only [zb_some, zj, zGw_0, hr, hb2, zn01.2, if_neg h10, if_neg f1, if_true, hg2, if_neg q1, if_neg q2, if_neg q3, if_neg q4, if_neg q5, if_neg q6, if_neg q7, if_neg q8, if_neg q9, if_neg q10, if_neg f2]
  · exact absurd k1 c
set_option maxRecDepth 100000 in
set_option maxHeartbeats 2000000 in
theorem zRS_cst {p n a e k s v o bg wa : Int32} {wv0 : Int64} {f g tab : Nat → Int32} {mF mN mNF mNN mS mM mC mW mCst mO m1 m2 mX mG : Nat → Int32} {mA mB : Nat → Int64} (hn : n ≤ 1200) (ha : 0 ≤ a ∧ a ≤ n) (hT : (∀ k : Nat, k < 71 → tab k = zTab k)) (T : zTok n f g a e k s v o) (ho : o = 4) (hf : ¬ zFull p o (mF 1) (mN 1)) : fn_X12_readsStatement p n a bg 0 wa 1 wv0 g tab mF mN mNF mNN mS mM mC mW mCst mO m1 m2 mX mG mA mB = (zb (fn_X12_number (0 : Int64) (999 : Int64) n e s 0 wa g) (fun o_1 => (zb (fn_X12_goesWell o_1.2.2.2.1) (fun o_67 => (if o_67 = 0 then (zg 1 2 (zb (fn_X12_mark 59 n o_1.2.1 o_1.2.2.2.1 o_1.2.2.2.2 g) (fun o_2 => (some (wv0, o_2.1, o_1.2.2.1, o_2.2.1, o_2.2.2, mF, mN, mNF, mNN, mS, mM, mC, mW, (upd mCst (1 : Int32).toNatClampNeg (mCst (1 : Int32).toNatClampNeg)), mO, m1, m2, mX, mG, mA, mB))))) else (zg 1 2 (zb (fn_X12_mark 59 n o_1.2.1 o_1.2.2.2.1 o_1.2.2.2.2 g) (fun o_2 => (some (wv0, o_2.1, o_1.2.2.1, o_2.2.1, o_2.2.2, mF, mN, mNF, mNN, mS, mM, mC, mW, (upd mCst (1 : Int32).toNatClampNeg o_1.1.toInt32), mO, m1, m2, mX, mG, mA, mB)))))))))) := by
  have hg2 : ∀ {ρ : Type} (e : Option ρ), zg 1 2 e = e := fun e => zg_in 2 (by decide +kernel) ⟨by decide, by decide⟩ e
  have h10 : ¬ (1 : Int32) = 0 := by decide
  subst ho
  have q0 : ¬ (4 : Int32) = 0 := by decide
  have q1 : ¬ (4 : Int32) = 1 := by decide
  have q2 : ¬ (4 : Int32) = 2 := by decide
  have q3 : ¬ (4 : Int32) = 3 := by decide
  have q5 : ¬ (4 : Int32) = 5 := by decide
  have q6 : ¬ (4 : Int32) = 6 := by decide
  have q7 : ¬ (4 : Int32) = 7 := by decide
  have q8 : ¬ (4 : Int32) = 8 := by decide
  have q9 : ¬ (4 : Int32) = 9 := by decide
  have q10 : ¬ (4 : Int32) = 10 := by decide
  have h : zBeg 4 := by unfold zBeg; decide
  have k1 := zTok_k1 T (zTok_o T (zBeg_n h)).1
  obtain ⟨w, hw, hc⟩ := zWordM (bg := bg) (wa := wa) hn ha T
  obtain ⟨r, hr, hrr⟩ := zOwnT hn ha hT T k1
  have er : r = 4 := by
    rcases hrr with ⟨_, q⟩ | ⟨q, _⟩
    · exact q
    · exact absurd ((zTok_o T (zBeg_n h)).1.symm.trans q) (by decide)
  subst er
  have hb2 := (zStarts_y h).2
  have f1 : ¬ p = 40 := fun q => hf (Or.inl q)
  have f2 : ¬ mF 1 = 4 ∨ True := Or.inr trivial
  unfold fn_X12_readsStatement
  rw [hw]
  rcases hc with ⟨c, rfl⟩ | ⟨c, rfl⟩
  · simp only [zb_some, zj, zGw_0, hr, hb2, zn01.2, if_neg h10, if_neg f1, if_true, hg2, if_neg q0, if_neg q1, if_neg q2, if_neg q3, if_neg q5, if_neg q6, if_neg q7, if_neg q8, if_neg q9, if_neg q10]
  · exact absurd k1 c
set_option maxRecDepth 100000 in
set_option maxHeartbeats 2000000 in
theorem zRS_box {p n a e k s v o bg wa : Int32} {wv0 : Int64} {f g tab : Nat → Int32} {mF mN mNF mNN mS mM mC mW mCst mO m1 m2 mX mG : Nat → Int32} {mA mB : Nat → Int64} (hn : n ≤ 1200) (ha : 0 ≤ a ∧ a ≤ n) (hT : (∀ k : Nat, k < 71 → tab k = zTab k)) (T : zTok n f g a e k s v o) (ho : o = 5) (hf : ¬ zFull p o (mF 1) (mN 1)) : fn_X12_readsStatement p n a bg 0 wa 1 wv0 g tab mF mN mNF mNN mS mM mC mW mCst mO m1 m2 mX mG mA mB = (zb (fn_X12_readsInput n e s 0 wa 1 g tab mF mNF mN mNN mO m1 m2 mX mW mG mA mB) (fun o_1 => (zb (fn_X12_mark 59 n o_1.1 o_1.2.2.1 o_1.2.2.2.1 g) (fun o_2 => (some (wv0, o_2.1, o_1.2.1, o_2.2.1, o_2.2.2, mF, o_1.2.2.2.2.1, mNF, o_1.2.2.2.2.2.1, mS, mM, mC, o_1.2.2.2.2.2.2.2.2.2.2.1, mCst, o_1.2.2.2.2.2.2.1, o_1.2.2.2.2.2.2.2.1, o_1.2.2.2.2.2.2.2.2.1, o_1.2.2.2.2.2.2.2.2.2.1, o_1.2.2.2.2.2.2.2.2.2.2.2.1, o_1.2.2.2.2.2.2.2.2.2.2.2.2.1, o_1.2.2.2.2.2.2.2.2.2.2.2.2.2)))))) := by
  have hg2 : ∀ {ρ : Type} (e : Option ρ), zg 1 2 e = e := fun e => zg_in 2 (by decide +kernel) ⟨by decide, by decide⟩ e
  have h10 : ¬ (1 : Int32) = 0 := by decide
  subst ho
  have q0 : ¬ (5 : Int32) = 0 := by decide
  have q1 : ¬ (5 : Int32) = 1 := by decide
  have q2 : ¬ (5 : Int32) = 2 := by decide
  have q3 : ¬ (5 : Int32) = 3 := by decide
  have q4 : ¬ (5 : Int32) = 4 := by decide
  have q6 : ¬ (5 : Int32) = 6 := by decide
  have q7 : ¬ (5 : Int32) = 7 := by decide
  have q8 : ¬ (5 : Int32) = 8 := by decide
  have q9 : ¬ (5 : Int32) = 9 := by decide
  have q10 : ¬ (5 : Int32) = 10 := by decide
  have h : zBeg 5 := by unfold zBeg; decide
  have k1 := zTok_k1 T (zTok_o T (zBeg_n h)).1
  obtain ⟨w, hw, hc⟩ := zWordM (bg := bg) (wa := wa) hn ha T
  obtain ⟨r, hr, hrr⟩ := zOwnT hn ha hT T k1
  have er : r = 5 := by
    rcases hrr with ⟨_, q⟩ | ⟨q, _⟩
    · exact q
    · exact absurd ((zTok_o T (zBeg_n h)).1.symm.trans q) (by decide)
  subst er
  have hb2 := (zStarts_y h).2
  have f1 : ¬ p = 40 := fun q => hf (Or.inl q)
  have f2 : ¬ mF 1 = 4 ∨ True := Or.inr trivial
  unfold fn_X12_readsStatement
  rw [hw]
  rcases hc with ⟨c, rfl⟩ | ⟨c, rfl⟩
  · simp only [zb_some, zj, zGw_0, hr, hb2, zn01.2, if_neg h10, if_neg f1, if_true, hg2, if_neg q0, if_neg q1, if_neg q2, if_neg q3, if_neg q4, if_neg q6, if_neg q7, if_neg q8, if_neg q9, if_neg q10, if_neg (show ¬ mN 1 = 14 from fun q => hf (Or.inr (Or.inr ⟨Or.inl rfl, q⟩)))]
  · exact absurd k1 c
set_option maxRecDepth 100000 in
set_option maxHeartbeats 2000000 in
theorem zRS_let {p n a e k s v o bg wa : Int32} {wv0 : Int64} {f g tab : Nat → Int32} {mF mN mNF mNN mS mM mC mW mCst mO m1 m2 mX mG : Nat → Int32} {mA mB : Nat → Int64} (hn : n ≤ 1200) (ha : 0 ≤ a ∧ a ≤ n) (hT : (∀ k : Nat, k < 71 → tab k = zTab k)) (T : zTok n f g a e k s v o) (ho : o = 6) (hf : ¬ zFull p o (mF 1) (mN 1)) : fn_X12_readsStatement p n a bg 0 wa 1 wv0 g tab mF mN mNF mNN mS mM mC mW mCst mO m1 m2 mX mG mA mB = (zb (fn_X12_readsLet n e s 0 wa 1 g tab mF mNF mN mNN mO m1 m2 mX mW mG mA mB) (fun o_1 => (zb (fn_X12_mark 59 n o_1.2.1 o_1.2.2.2.1 o_1.2.2.2.2.1 g) (fun o_2 => (some (o_1.1, o_2.1, o_1.2.2.1, o_2.2.1, o_2.2.2, mF, o_1.2.2.2.2.2.1, mNF, o_1.2.2.2.2.2.2.1, mS, mM, mC, o_1.2.2.2.2.2.2.2.2.2.2.2.1, mCst, o_1.2.2.2.2.2.2.2.1, o_1.2.2.2.2.2.2.2.2.1, o_1.2.2.2.2.2.2.2.2.2.1, o_1.2.2.2.2.2.2.2.2.2.2.1, o_1.2.2.2.2.2.2.2.2.2.2.2.2.1, o_1.2.2.2.2.2.2.2.2.2.2.2.2.2.1, o_1.2.2.2.2.2.2.2.2.2.2.2.2.2.2)))))) := by
  have hg2 : ∀ {ρ : Type} (e : Option ρ), zg 1 2 e = e := fun e => zg_in 2 (by decide +kernel) ⟨by decide, by decide⟩ e
  have h10 : ¬ (1 : Int32) = 0 := by decide
  subst ho
  have q0 : ¬ (6 : Int32) = 0 := by decide
  have q1 : ¬ (6 : Int32) = 1 := by decide
  have q2 : ¬ (6 : Int32) = 2 := by decide
  have q3 : ¬ (6 : Int32) = 3 := by decide
  have q4 : ¬ (6 : Int32) = 4 := by decide
  have q5 : ¬ (6 : Int32) = 5 := by decide
  have q7 : ¬ (6 : Int32) = 7 := by decide
  have q8 : ¬ (6 : Int32) = 8 := by decide
  have q9 : ¬ (6 : Int32) = 9 := by decide
  have q10 : ¬ (6 : Int32) = 10 := by decide
  have h : zBeg 6 := by unfold zBeg; decide
  have k1 := zTok_k1 T (zTok_o T (zBeg_n h)).1
  obtain ⟨w, hw, hc⟩ := zWordM (bg := bg) (wa := wa) hn ha T
  obtain ⟨r, hr, hrr⟩ := zOwnT hn ha hT T k1
  have er : r = 6 := by
    rcases hrr with ⟨_, q⟩ | ⟨q, _⟩
    · exact q
    · exact absurd ((zTok_o T (zBeg_n h)).1.symm.trans q) (by decide)
  subst er
  have hb2 := (zStarts_y h).2
  have f1 : ¬ p = 40 := fun q => hf (Or.inl q)
  have f2 : ¬ mF 1 = 4 ∨ True := Or.inr trivial
  unfold fn_X12_readsStatement
  rw [hw]
  rcases hc with ⟨c, rfl⟩ | ⟨c, rfl⟩
  · simp only [zb_some, zj, zGw_0, hr, hb2, zn01.2, if_neg h10, if_neg f1, if_true, hg2, if_neg q0, if_neg q1, if_neg q2, if_neg q3, if_neg q4, if_neg q5, if_neg q7, if_neg q8, if_neg q9, if_neg q10, if_neg (show ¬ mN 1 = 14 from fun q => hf (Or.inr (Or.inr ⟨Or.inr rfl, q⟩)))]
  · exact absurd k1 c
set_option maxRecDepth 100000 in
set_option maxHeartbeats 2000000 in
theorem zRS_fix {p n a e k s v o bg wa : Int32} {wv0 : Int64} {f g tab : Nat → Int32} {mF mN mNF mNN mS mM mC mW mCst mO m1 m2 mX mG : Nat → Int32} {mA mB : Nat → Int64} (hn : n ≤ 1200) (ha : 0 ≤ a ∧ a ≤ n) (hT : (∀ k : Nat, k < 71 → tab k = zTab k)) (T : zTok n f g a e k s v o) (ho : o = 9) (hf : ¬ zFull p o (mF 1) (mN 1)) : fn_X12_readsStatement p n a bg 0 wa 1 wv0 g tab mF mN mNF mNN mS mM mC mW mCst mO m1 m2 mX mG mA mB = (zb (fn_X12_readsFixed n e s 0 wa 1 g tab mN mNN mF mNF mX) (fun o_1 => (zb (fn_X12_mark 59 n o_1.1 o_1.2.2.1 o_1.2.2.2.1 g) (fun o_2 => (some (wv0, o_2.1, o_1.2.1, o_2.2.1, o_2.2.2, mF, mN, mNF, mNN, mS, mM, mC, mW, mCst, mO, m1, m2, o_1.2.2.2.2, mG, mA, mB)))))) := by
  have hg2 : ∀ {ρ : Type} (e : Option ρ), zg 1 2 e = e := fun e => zg_in 2 (by decide +kernel) ⟨by decide, by decide⟩ e
  have h10 : ¬ (1 : Int32) = 0 := by decide
  subst ho
  have q0 : ¬ (9 : Int32) = 0 := by decide
  have q1 : ¬ (9 : Int32) = 1 := by decide
  have q2 : ¬ (9 : Int32) = 2 := by decide
  have q3 : ¬ (9 : Int32) = 3 := by decide
  have q4 : ¬ (9 : Int32) = 4 := by decide
  have q5 : ¬ (9 : Int32) = 5 := by decide
  have q6 : ¬ (9 : Int32) = 6 := by decide
  have q7 : ¬ (9 : Int32) = 7 := by decide
  have q8 : ¬ (9 : Int32) = 8 := by decide
  have q10 : ¬ (9 : Int32) = 10 := by decide
  have h : zBeg 9 := by unfold zBeg; decide
  have k1 := zTok_k1 T (zTok_o T (zBeg_n h)).1
  obtain ⟨w, hw, hc⟩ := zWordM (bg := bg) (wa := wa) hn ha T
  obtain ⟨r, hr, hrr⟩ := zOwnT hn ha hT T k1
  have er : r = 9 := by
    rcases hrr with ⟨_, q⟩ | ⟨q, _⟩
    · exact q
    · exact absurd ((zTok_o T (zBeg_n h)).1.symm.trans q) (by decide)
  subst er
  have hb2 := (zStarts_y h).2
  have f1 : ¬ p = 40 := fun q => hf (Or.inl q)
  have f2 : ¬ mF 1 = 4 ∨ True := Or.inr trivial
  unfold fn_X12_readsStatement
  rw [hw]
  rcases hc with ⟨c, rfl⟩ | ⟨c, rfl⟩
  · simp only [zb_some, zj, zGw_0, hr, hb2, zn01.2, if_neg h10, if_neg f1, if_true, hg2, if_neg q0, if_neg q1, if_neg q2, if_neg q3, if_neg q4, if_neg q5, if_neg q6, if_neg q7, if_neg q8, if_neg q10]
  · exact absurd k1 c
set_option maxRecDepth 100000 in
set_option maxHeartbeats 2000000 in
theorem zRS_grp {p n a e k s v o bg wa : Int32} {wv0 : Int64} {f g tab : Nat → Int32} {mF mN mNF mNN mS mM mC mW mCst mO m1 m2 mX mG : Nat → Int32} {mA mB : Nat → Int64} (hn : n ≤ 1200) (ha : 0 ≤ a ∧ a ≤ n) (hT : (∀ k : Nat, k < 71 → tab k = zTab k)) (T : zTok n f g a e k s v o) (ho : o = 10) (hf : ¬ zFull p o (mF 1) (mN 1)) : fn_X12_readsStatement p n a bg 0 wa 1 wv0 g tab mF mN mNF mNN mS mM mC mW mCst mO m1 m2 mX mG mA mB = (zb (fn_X12_readsGroup n e s 0 wa 1 g tab mN mNN mG) (fun o_1 => (zb (fn_X12_mark 59 n o_1.1 o_1.2.2.1 o_1.2.2.2.1 g) (fun o_2 => (some (wv0, o_2.1, o_1.2.1, o_2.2.1, o_2.2.2, mF, mN, mNF, mNN, mS, mM, mC, mW, mCst, mO, m1, m2, mX, o_1.2.2.2.2, mA, mB)))))) := by
  have hg2 : ∀ {ρ : Type} (e : Option ρ), zg 1 2 e = e := fun e => zg_in 2 (by decide +kernel) ⟨by decide, by decide⟩ e
  have h10 : ¬ (1 : Int32) = 0 := by decide
  subst ho
  have q0 : ¬ (10 : Int32) = 0 := by decide
  have q1 : ¬ (10 : Int32) = 1 := by decide
  have q2 : ¬ (10 : Int32) = 2 := by decide
  have q3 : ¬ (10 : Int32) = 3 := by decide
  have q4 : ¬ (10 : Int32) = 4 := by decide
  have q5 : ¬ (10 : Int32) = 5 := by decide
  have q6 : ¬ (10 : Int32) = 6 := by decide
  have q7 : ¬ (10 : Int32) = 7 := by decide
  have q8 : ¬ (10 : Int32) = 8 := by decide
  have q9 : ¬ (10 : Int32) = 9 := by decide
  have h : zBeg 10 := by unfold zBeg; decide
  have k1 := zTok_k1 T (zTok_o T (zBeg_n h)).1
  obtain ⟨w, hw, hc⟩ := zWordM (bg := bg) (wa := wa) hn ha T
  obtain ⟨r, hr, hrr⟩ := zOwnT hn ha hT T k1
  have er : r = 10 := by
    rcases hrr with ⟨_, q⟩ | ⟨q, _⟩
    · exact q
    · exact absurd ((zTok_o T (zBeg_n h)).1.symm.trans q) (by decide)
  subst er
  have hb2 := (zStarts_y h).2
  have f1 : ¬ p = 40 := fun q => hf (Or.inl q)
  have f2 : ¬ mF 1 = 4 ∨ True := Or.inr trivial
  unfold fn_X12_readsStatement
  rw [hw]
  rcases hc with ⟨c, rfl⟩ | ⟨c, rfl⟩
  · simp only [zb_some, zj, zGw_0, hr, hb2, zn01.2, if_neg h10, if_neg f1, if_true, hg2, if_neg q0, if_neg q1, if_neg q2, if_neg q3, if_neg q4, if_neg q5, if_neg q6, if_neg q7, if_neg q8, if_neg q9]
  · exact absurd k1 c
set_option maxRecDepth 100000 in
set_option maxHeartbeats 2000000 in
theorem zRS_alw {p n a e k s v o bg wa : Int32} {wv0 : Int64} {f g tab : Nat → Int32} {mF mN mNF mNN mS mM mC mW mCst mO m1 m2 mX mG : Nat → Int32} {mA mB : Nat → Int64} (hn : n ≤ 1200) (ha : 0 ≤ a ∧ a ≤ n) (hT : (∀ k : Nat, k < 71 → tab k = zTab k)) (T : zTok n f g a e k s v o) (ho : o = 11) (hf : ¬ zFull p o (mF 1) (mN 1)) : fn_X12_readsStatement p n a bg 0 wa 1 wv0 g tab mF mN mNF mNN mS mM mC mW mCst mO m1 m2 mX mG mA mB = (zb (fn_X12_readsAnswer n e s 0 wa 1 g tab mN mNN mW) (fun o_1 => (zb (fn_X12_mark 59 n o_1.1 o_1.2.2.1 o_1.2.2.2.1 g) (fun o_2 => (some (wv0, o_2.1, o_1.2.1, o_2.2.1, o_2.2.2, mF, mN, mNF, mNN, mS, mM, mC, o_1.2.2.2.2, mCst, mO, m1, m2, mX, mG, mA, mB)))))) := by
  have hg2 : ∀ {ρ : Type} (e : Option ρ), zg 1 2 e = e := fun e => zg_in 2 (by decide +kernel) ⟨by decide, by decide⟩ e
  have h10 : ¬ (1 : Int32) = 0 := by decide
  subst ho
  have q0 : ¬ (11 : Int32) = 0 := by decide
  have q1 : ¬ (11 : Int32) = 1 := by decide
  have q2 : ¬ (11 : Int32) = 2 := by decide
  have q3 : ¬ (11 : Int32) = 3 := by decide
  have q4 : ¬ (11 : Int32) = 4 := by decide
  have q5 : ¬ (11 : Int32) = 5 := by decide
  have q6 : ¬ (11 : Int32) = 6 := by decide
  have q7 : ¬ (11 : Int32) = 7 := by decide
  have q8 : ¬ (11 : Int32) = 8 := by decide
  have q9 : ¬ (11 : Int32) = 9 := by decide
  have q10 : ¬ (11 : Int32) = 10 := by decide
  have h : zBeg 11 := by unfold zBeg; decide
  have k1 := zTok_k1 T (zTok_o T (zBeg_n h)).1
  obtain ⟨w, hw, hc⟩ := zWordM (bg := bg) (wa := wa) hn ha T
  obtain ⟨r, hr, hrr⟩ := zOwnT hn ha hT T k1
  have er : r = 11 := by
    rcases hrr with ⟨_, q⟩ | ⟨q, _⟩
    · exact q
    · exact absurd ((zTok_o T (zBeg_n h)).1.symm.trans q) (by decide)
  subst er
  have hb2 := (zStarts_y h).2
  have f1 : ¬ p = 40 := fun q => hf (Or.inl q)
  have f2 : ¬ mF 1 = 4 ∨ True := Or.inr trivial
  unfold fn_X12_readsStatement
  rw [hw]
  rcases hc with ⟨c, rfl⟩ | ⟨c, rfl⟩
  · simp only [zb_some, zj, zGw_0, hr, hb2, zn01.2, if_neg h10, if_neg f1, if_true, hg2, if_neg q0, if_neg q1, if_neg q2, if_neg q3, if_neg q4, if_neg q5, if_neg q6, if_neg q7, if_neg q8, if_neg q9, if_neg q10]
  · exact absurd k1 c
set_option maxRecDepth 100000 in
set_option maxHeartbeats 4000000 in
theorem zStmt {p n a e k s v o got fk fp bg wa : Int32} {wv0 : Int64} {f g own tab : Nat → Int32} {cF cc cN inp : Int32} {nF nN stp mst prc al made amt op fx jn lets : Nat → Int32} {mF mN mNF mNN mS mM mC mW mCst mO m1 m2 mX mG : Nat → Int32} {mA mB : Nat → Int64} (hn : n ≤ 1200) (ha : 0 ≤ a ∧ a ≤ n) (ht : zTp f g) (ho : ∀ w : Nat, w < 13 → own w = zOwT w) (hT : (∀ k : Nat, k < 71 → tab k = zTab k)) (T : zTok n f g a e k s v o) (h : zTS cF cc cN inp nF nN stp mst prc al made amt op fx jn lets mF mN mNF mNN mS mM mC mW mCst mO m1 m2 mX mG mA mB) (hp : 0 ≤ p ∧ p ≤ 40) : zw (fn_X5_readStatement p got fk fp n e k s v o cF cc cN inp f own nF nN stp mst prc al made amt op fx jn lets) (fun r => zw (fn_X12_readsStatement p n a bg 0 wa 1 wv0 g tab mF mN mNF mNN mS mM mC mW mCst mO m1 m2 mX mG mA mB) (fun q => zSR n f g fk fp wa mF mN mNF mNN mS mM mC mW mCst mO m1 m2 mX mG mA mB r q ∧ (¬ r.1 = 0 → p < 40))) := by
  have h0 := h
  obtain ⟨hF, hN, hC, hI, hfm, hnu, hgr⟩ := h
  have h10 : ¬ (1 : Int32) = 0 := by decide
  unfold fn_X5_readStatement
  by_cases hb : zBeg o
  · rw [(zStarts_y hb).1]
    simp only [zb_some]
    rw [if_neg h10]
    by_cases hf : zFull p o (mF 1) (mN 1)
    · have hm := zRS_4 (bg := bg) (wa := wa) (wv0 := wv0) (mNF := mNF) (mNN := mNN) (mS := mS) (mM := mM) (mC := mC) (mW := mW) (mCst := mCst) (mO := mO) (m1 := m1) (m2 := m2) (mX := mX) (mG := mG) (mA := mA) (mB := mB) hn ha hT T hb hf
      rw [hm]
      refine zw_if (fun c => ?_) (fun c => ?_)
      · exact zw_some (zw_some ⟨Or.inr ⟨⟨rfl, show ¬ (4 : Int32) = 0 by decide, rfl, rfl⟩, zFR_rf⟩, fun q => absurd rfl q⟩)
      · have hfc : o = 0 ∧ cF = 4 ∨ (o = 5 ∨ o = 6) ∧ cN = 14 := by
          rw [hF.1, hN.1] at hf
          rcases hf with q | q
          · exact absurd (show 40 ≤ p by rw [q]; decide) c
          · exact q
        rw [zIsFull hF.2 hN.2, if_pos hfc]
        simp only [zb_some]
        rw [if_neg h10]
        exact zw_some (zw_some ⟨Or.inr ⟨⟨rfl, show ¬ (4 : Int32) = 0 by decide, rfl, rfl⟩, zFR_rf⟩, fun q => absurd rfl q⟩)
    · have hf40 : ¬ 40 ≤ p := fun q => hf (Or.inl (by grind))
      have hnf : ¬ (o = 0 ∧ cF = 4 ∨ (o = 5 ∨ o = 6) ∧ cN = 14) := fun q => hf (by rw [hF.1, hN.1]; exact Or.inr q)
      rw [if_neg hf40, zIsFull hF.2 hN.2, if_neg hnf]
      simp only [zb_some]
      rw [if_pos trivial]
      have hk1 := (zTok_o T (zBeg_n hb)).1
      refine zw_zb0 (zAdvN hn ha ht ho T (Or.inl hk1)) (fun x hx => ?_)
      have ha1 := (zTok_nx hn ha T (Or.inl hk1)).1
      refine zw_zjE (j' := zJ5 n f own) rfl ?_
      (try dsimp only)
      have hb' := hb
      rcases hb' with q | q | q | q | q | q | q
      · rw [zRS_fmt (bg := bg) (wa := wa) (wv0 := wv0) hn ha hT T q hf]
        rw [if_pos q]
        exact zw_mono (zSt_fmt (wv0 := wv0) hn ha1 ht ho hT hx h0 (by rw [hF.1, hN.1] at hf; unfold zFull at hf; grind)) (fun r hr => zw_mono hr (fun q hq => ⟨hq, fun _ => by grind⟩))
      · rw [zRS_cst (bg := bg) (wa := wa) (wv0 := wv0) hn ha hT T q hf]
        rw [if_neg (by rw [q]; decide), if_neg (by rw [q]; decide), if_neg (by rw [q]; decide), if_neg (by rw [q]; decide), if_pos q]
        exact zw_mono (zSt_cst (wv0 := wv0) hn ha1 ht ho hT hx h0) (fun r hr => zw_mono hr (fun q hq => ⟨hq, fun _ => by grind⟩))
      · rw [zRS_box (bg := bg) (wa := wa) (wv0 := wv0) hn ha hT T q hf]
        rw [if_neg (by rw [q]; decide), if_neg (by rw [q]; decide), if_neg (by rw [q]; decide), if_neg (by rw [q]; decide), if_neg (by rw [q]; decide), if_pos q]
        exact zw_mono (zSt_box (wv0 := wv0) hn ha1 ht ho hT hx h0 (by rw [hF.1, hN.1] at hf; unfold zFull at hf; grind)) (fun r hr => zw_mono hr (fun q hq => ⟨hq, fun _ => by grind⟩))
      · rw [zRS_let (bg := bg) (wa := wa) (wv0 := wv0) hn ha hT T q hf]
        rw [if_neg (by rw [q]; decide), if_neg (by rw [q]; decide), if_neg (by rw [q]; decide), if_neg (by rw [q]; decide), if_neg (by rw [q]; decide), if_neg (by rw [q]; decide), if_pos q]
        exact zw_mono (zSt_let (wv0 := wv0) hn ha1 ht ho hT hx h0 (by rw [hF.1, hN.1] at hf; unfold zFull at hf; grind)) (fun r hr => zw_mono hr (fun q hq => ⟨hq, fun _ => by grind⟩))
      · rw [zRS_fix (bg := bg) (wa := wa) (wv0 := wv0) hn ha hT T q hf]
        rw [if_neg (by rw [q]; decide), if_neg (by rw [q]; decide), if_neg (by rw [q]; decide), if_neg (by rw [q]; decide), if_neg (by rw [q]; decide), if_neg (by rw [q]; decide), if_neg (by rw [q]; decide), if_neg (by rw [q]; decide), if_neg (by rw [q]; decide), if_pos q]
        exact zw_mono (zSt_fix (wv0 := wv0) hn ha1 ht ho hT hx h0) (fun r hr => zw_mono hr (fun q hq => ⟨hq, fun _ => by grind⟩))
      · rw [zRS_grp (bg := bg) (wa := wa) (wv0 := wv0) hn ha hT T q hf]
        rw [if_neg (by rw [q]; decide), if_neg (by rw [q]; decide), if_neg (by rw [q]; decide), if_neg (by rw [q]; decide), if_neg (by rw [q]; decide), if_neg (by rw [q]; decide), if_neg (by rw [q]; decide), if_neg (by rw [q]; decide), if_neg (by rw [q]; decide), if_neg (by rw [q]; decide), if_pos q]
        exact zw_mono (zSt_grp (wv0 := wv0) hn ha1 ht ho hT hx h0) (fun r hr => zw_mono hr (fun q hq => ⟨hq, fun _ => by grind⟩))
      · rw [zRS_alw (bg := bg) (wa := wa) (wv0 := wv0) hn ha hT T q hf]
        rw [if_neg (by rw [q]; decide), if_neg (by rw [q]; decide), if_neg (by rw [q]; decide), if_neg (by rw [q]; decide), if_neg (by rw [q]; decide), if_neg (by rw [q]; decide), if_neg (by rw [q]; decide), if_neg (by rw [q]; decide), if_neg (by rw [q]; decide), if_neg (by rw [q]; decide), if_neg (by rw [q]; decide)]
        exact zw_mono (zSt_alw (wv0 := wv0) hn ha1 ht ho hT hx h0) (fun r hr => zw_mono hr (fun q hq => ⟨hq, fun _ => by grind⟩))
  · obtain ⟨z, b', hm⟩ := zRS_1 (p := p) (bg := bg) (wa := wa) (wv0 := wv0) (mF := mF) (mN := mN) (mNF := mNF) (mNN := mNN) (mS := mS) (mM := mM) (mC := mC) (mW := mW) (mCst := mCst) (mO := mO) (m1 := m1) (m2 := m2) (mX := mX) (mG := mG) (mA := mA) (mB := mB) hn ha hT T hb
    rw [hm, (zStarts_n hb).1]
    simp only [zb_some]
    rw [if_pos trivial]
    exact zw_some (zw_some ⟨Or.inr ⟨⟨rfl, show ¬ (1 : Int32) = 0 by decide, rfl, rfl⟩, zFR_rf⟩, fun q => absurd rfl q⟩)
