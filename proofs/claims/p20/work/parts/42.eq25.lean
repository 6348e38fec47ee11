/-! COSTS and casts; the CHOICE at hand -/
theorem zRN_1 {cN : Int32} {a b : Int64} {op made amt rwd : Nat → Int32} {rlo rhi : Nat → Int64} (h : zRN cN (-1) a op made amt rwd rlo rhi) : zRN cN (-1) b op made amt rwd rlo rhi := by
  intro i i0 i1
  obtain ⟨h1, h2, h3⟩ := h i i0 i1
  have ne : ¬ i = (-1) := by grind
  rw [if_neg ne] at h1 h2
  exact ⟨by rw [if_neg ne]; exact h1, by rw [if_neg ne]; exact h2, h3⟩
noncomputable def zCas (t : Nat → Int32) (i m : Int32) : Int32 := if m = (-1) then 0 else if t m.toNatClampNeg = t i.toNatClampNeg then 0 else 1
theorem zCastM {k m x : Int32} {t : Nat → Int32} (h : fn_X12_isCast k m t = some x) : x = zCas t k m := by
  unfold fn_X12_isCast at h
  unfold zCas
  by_cases c : m = (-1)
  · rw [if_pos c] at h ⊢
    exact (Option.some.inj h).symm
  · rw [if_neg c] at h ⊢
    obtain ⟨-, h⟩ := zg_s h
    obtain ⟨-, h⟩ := zg_s h
    by_cases d : t m.toNatClampNeg = t k.toNatClampNeg
    · rw [if_pos d] at h ⊢
      exact (Option.some.inj h).symm
    · rw [if_neg d] at h ⊢
      exact (Option.some.inj h).symm
theorem zCas_01 (t : Nat → Int32) (i m : Int32) : zCas t i m = 0 ∨ zCas t i m = 1 := by
  unfold zCas
  by_cases c : m = (-1)
  · rw [if_pos c]; exact Or.inl rfl
  · rw [if_neg c]
    by_cases d : t m.toNatClampNeg = t i.toNatClampNeg
    · rw [if_pos d]; exact Or.inl rfl
    · rw [if_neg d]; exact Or.inr rfl
set_option maxHeartbeats 4000000 in
theorem zCastsEq {cF cc cN inp : Int32} {nF nN stp mst prc al made amt op fx jn lets gof mF mN mCst mNF mNN mS mM mC mW mO m1 m2 mX mG mTr : Nat → Int32} {mA mB : Nat → Int64} {ch : Nat → Int32} {x y : Int32} (T : zTN cF cc cN inp nF nN stp mst prc al made amt op fx jn lets mF mN mNF mNN mS mM mC mW mCst mO m1 m2 mX mG mA mB) (C : zCh cN cF gof ch mTr) (h1 : fn_X9_castsOf cN made gof ch = some x) (h2 : fn_X12_castsTried mN m1 mTr m2 = some y) : x = y := by
  obtain ⟨hF, ⟨n1, n2, n3⟩, hC, hz, hp, hI, hf, hn, hg⟩ := T
  unfold fn_X9_castsOf at h1
  unfold fn_X12_castsTried at h2
  rw [zn01.1, n1] at h2
  refine zl_ip2 (P := fun x y => x = y) (fun s t => t = s ∧ 0 ≤ s.2 ∧ s.2 ≤ cN) ?_ _ _ _ _ _ _ ?_ h1 h2
  rotate_left
  · exact ⟨rfl, (show (0 : Int32) ≤ 0 by decide), n2⟩
  intro s t k1 k2 o1 o2 ⟨R1, R2, R3⟩ hb ho1 ho2
  subst R1
  obtain ⟨c, i⟩ := t
  dsimp only at R2 R3 ho1 ho2
  by_cases d : cN ≤ i
  · rw [if_pos d] at ho1 ho2
    rw [← Option.some.inj ho1, ← Option.some.inj ho2]
  · rw [if_neg d] at ho1 ho2
    have hi : 0 ≤ i ∧ i < cN := ⟨R2, by grind⟩
    obtain ⟨q1, q2, q3, q4, q5, q6, q7, q8, q9, q10, q11, q12, q13, q14⟩ := hn i hi.1 hi.2
    obtain ⟨-, ho2⟩ := zg_s ho2
    obtain ⟨a, ha, ho2⟩ := zb_s ho2
    have ha := zCastM ha
    rw [← q5] at ha
    simp only [zj] at ho2
    -- the reference: both at once
    have ho2 : ∃ b, b = zCas mTr i (made (2 * i + 1).toNatClampNeg) ∧ k2 (c + (a + b), i + 1) = some o2 := by
      rcases zCas_01 mTr i (made (2 * i + 0).toNatClampNeg) with z | z
      · rw [z] at ha
        rw [if_pos ha] at ho2
        obtain ⟨-, ho2⟩ := zg_s ho2
        obtain ⟨b, hb', ho2⟩ := zb_s ho2
        have hb' := zCastM hb'
        rw [← q6] at hb'
        refine ⟨b, hb', ?_⟩
        rcases zCas_01 mTr i (made (2 * i + 1).toNatClampNeg) with w | w
        · rw [if_pos (hb'.trans w)] at ho2
          rw [ha, hb', w]; exact ho2
        · rw [if_neg (by rw [hb', w]; decide)] at ho2
          rw [ha, hb', w]; exact ho2
      · rw [z] at ha
        rw [if_neg (by rw [ha]; decide)] at ho2
        obtain ⟨-, ho2⟩ := zg_s ho2
        obtain ⟨b, hb', ho2⟩ := zb_s ho2
        have hb' := zCastM hb'
        rw [← q6] at hb'
        refine ⟨b, hb', ?_⟩
        rcases zCas_01 mTr i (made (2 * i + 1).toNatClampNeg) with w | w
        · rw [if_pos (hb'.trans w)] at ho2
          rw [ha, hb', w]; exact ho2
        · rw [if_neg (by rw [hb', w]; decide)] at ho2
          rw [ha, hb', w]; exact ho2
    obtain ⟨b, eb, ho2⟩ := ho2
    -- the class: one side after the other
    have e1 : ∀ (v : Int32) (m : Int32), (-1) ≤ m → m < i → ∀ (kk : Int32 × Int32 → Option Int32) (s : Int32), (if m = (-1) then kk (v, s + 1) else zb (fn_X9_formatOf m cN gof ch) (fun o_10 => zb (fn_X9_formatOf i cN gof ch) (fun o_14 => if o_10 = o_14 then kk (v, s + 1) else kk (v + 1, s + 1)))) = kk (v + zCas mTr i m, s + 1) := by
      intro v m m0 m1 kk s
      unfold zCas
      by_cases w : m = (-1)
      · rw [if_pos w, if_pos w, Int32.add_zero]
      · rw [if_neg w, if_neg w, zFmtOf n3 C ⟨by grind, by grind⟩, zb_some, zFmtOf n3 C hi, zb_some]
        by_cases u : mTr m.toNatClampNeg = mTr i.toNatClampNeg
        · rw [if_pos u, if_pos u, Int32.add_zero]
        · rw [if_neg u, if_neg u]
    obtain ⟨B, eB, ho1⟩ := zl_g ho1
    have ho1 := zl_s eB ho1
    try dsimp only at ho1
    rw [if_neg (by decide), zMade0 n3 hi, zb_some, e1 _ _ q12.1 q12.2] at ho1
    have ho1 := zl_s eB ho1
    try dsimp only at ho1
    rw [show (0 + 1 : Int32) = 1 by decide, if_neg (by decide), zMade1 n3 hi, zb_some, e1 _ _ q13.1 q13.2] at ho1
    have ho1 := zl_s eB ho1
    try dsimp only at ho1
    rw [if_pos (by decide), ← eb, ← ha] at ho1
    refine hb _ _ _ _ ?_ ho1 ho2
    refine ⟨?_, (show 0 ≤ i + 1 by grind), (show i + 1 ≤ cN by grind)⟩
    show (c + (a + b), i + 1) = (c + a + b, i + 1)
    rw [Int32.add_assoc]
theorem zPriceEq {cF cc cN inp : Int32} {nF nN stp mst prc al made amt op fx jn lets gof mF mN mCst mNF mNN mS mM mC mW mO m1 m2 mX mG mTr : Nat → Int32} {mA mB : Nat → Int64} {ch : Nat → Int32} {x y : Int32} (T : zTN cF cc cN inp nF nN stp mst prc al made amt op fx jn lets mF mN mNF mNN mS mM mC mW mCst mO m1 m2 mX mG mA mB) (C : zCh cN cF gof ch mTr) (h1 : fn_X9_priceOf cF cc cN made gof ch prc = some x) (h2 : fn_X12_costTried mCst mN m1 mTr m2 mC = some y) : x = y := by
  have T0 := T
  obtain ⟨⟨f1, f2, f3⟩, ⟨n1, n2, n3⟩, hC, hz, hp, hI, hf, hn, hg⟩ := T
  unfold fn_X9_priceOf at h1
  unfold fn_X12_costTried at h2
  obtain ⟨a, ha, h1⟩ := zb_s h1
  obtain ⟨b, hb0, h2⟩ := zb_s h2
  have e := zCastsEq T0 C ha hb0
  subst e
  rw [zn01.1, n1, hC.1] at h2
  refine zl_ip2 (P := fun x y => x = y) (fun s t => t = s ∧ 0 ≤ s.2 ∧ s.2 ≤ cN) ?_ _ _ _ _ _ _ ?_ h1 h2
  rotate_left
  · exact ⟨rfl, (show (0 : Int32) ≤ 0 by decide), n2⟩
  intro s t k1 k2 o1 o2 ⟨R1, R2, R3⟩ hb ho1 ho2
  subst R1
  obtain ⟨c, i⟩ := t
  dsimp only at R2 R3 ho1 ho2
  by_cases d : cN ≤ i
  · rw [if_pos d] at ho1 ho2
    rw [← Option.some.inj ho1, ← Option.some.inj ho2]
  · rw [if_neg d] at ho1 ho2
    have hi : 0 ≤ i ∧ i < cN := ⟨R2, by grind⟩
    obtain ⟨-, -, t1, t2⟩ := C i hi.1 hi.2
    rw [zFmtOf n3 C hi, zb_some, zHasF, zb_some, if_neg (by rw [zif1]; exact fun q => q ⟨t1, t2⟩)] at ho1
    obtain ⟨-, ho1⟩ := zg_s ho1
    obtain ⟨-, ho2⟩ := zg_s ho2
    obtain ⟨-, ho2⟩ := zg_s ho2
    rw [(hf _ t1 t2).2.2.2.1] at ho1
    refine hb _ _ _ _ ?_ ho1 ho2
    exact ⟨rfl, (show 0 ≤ i + 1 by grind), (show i + 1 ≤ cN by grind)⟩
/-- the CHOICE at hand, where there is one -/
noncomputable def zHN (cN cF gcl mHh : Int32) (gof gfx hand mH : Nat → Int32) : Prop := (0 < cN → (mHh = 1 ∧ gcl = 0 ∨ mHh = 0 ∧ ¬ gcl = 0)) ∧ (cN = 0 → mHh = 0 ∨ mHh = 1) ∧ (0 < cN → gcl = 0 → zCh cN cF gof hand mH ∧ (∀ i : Int32, 0 ≤ i → i < cN → ¬ gfx (gof i.toNatClampNeg).toNatClampNeg = (-1) → hand (gof i.toNatClampNeg).toNatClampNeg = gfx (gof i.toNatClampNeg).toNatClampNeg))
theorem zHasC {cN gcl : Int32} (hN : 0 ≤ cN) : fn_X9_hasChoice cN gcl = some (if 0 < cN ∧ gcl = 0 then 1 else 0) := by
  unfold fn_X9_hasChoice
  by_cases c : cN ≤ 0
  · rw [if_pos c, if_neg (fun q => by have := q.1; grind)]
  · rw [if_neg c]
    by_cases d : gcl = 0
    · rw [if_pos d, if_pos ⟨by grind, d⟩]
    · rw [if_neg d, if_neg (fun q => d q.2)]
theorem zIsTh {cN cF gcl mHh : Int32} {gof gfx hand mH mN : Nat → Int32} (hN : mN 0 = cN ∧ 0 ≤ cN) (H : zHN cN cF gcl mHh gof gfx hand mH) : fn_X12_isThere mHh mN = some (if 0 < cN ∧ gcl = 0 then 1 else 0) := by
  unfold fn_X12_isThere
  rw [zn01.1, hN.1]
  by_cases c : 0 < cN
  · rcases H.1 c with ⟨a1, a2⟩ | ⟨a1, a2⟩
    · rw [if_neg (by rw [a1]; decide), if_neg (by grind), if_pos ⟨c, a2⟩]
    · rw [if_pos a1, if_neg (fun q => a2 q.2)]
  · have z : cN ≤ 0 := by grind
    rw [if_neg (show ¬ (0 < cN ∧ gcl = 0) from fun q => c q.1)]
    by_cases d : mHh = 0
    · rw [if_pos d]
    · rw [if_neg d, if_pos z]
theorem zTrH {cN : Int32} {mN mH mTr : Nat → Int32} {x : Nat → Int32} (hN : mN 0 = cN ∧ 0 ≤ cN ∧ cN ≤ 14) (h : fn_X12_triesHand mN mH mTr = some x) : ∀ i : Int32, 0 ≤ i → i < cN → x i.toNatClampNeg = mH i.toNatClampNeg := by
  unfold fn_X12_triesHand at h
  rw [zn01.1, hN.1] at h
  refine zl_ip (P := fun x : Nat → Int32 => ∀ i : Int32, 0 ≤ i → i < cN → x i.toNatClampNeg = mH i.toNatClampNeg) (fun s => 0 ≤ s.1 ∧ s.1 ≤ cN ∧ ∀ i : Int32, 0 ≤ i → i < s.1 → s.2 i.toNatClampNeg = mH i.toNatClampNeg) ?_ _ _ _ ?_ h
  rotate_left
  · exact ⟨(show (0 : Int32) ≤ 0 by decide), hN.2.1, fun i i0 i1 => absurd i1 (by show ¬ i < 0; grind)⟩
  intro s back o ⟨H1, H2, H3⟩ hb ho
  obtain ⟨k, row⟩ := s
  dsimp only at H1 H2 H3 ho
  by_cases c : cN ≤ k
  · rw [if_pos c] at ho
    rw [← Option.some.inj ho]
    exact fun i i0 i1 => H3 i i0 (by grind)
  · rw [if_neg c] at ho
    obtain ⟨-, ho⟩ := zg_s ho
    refine hb _ _ ?_ ho
    refine ⟨(show 0 ≤ k + 1 by grind), (show k + 1 ≤ cN by grind), fun i i0 i1 => ?_⟩
    have i1 : i < k + 1 := i1
    show upd row k.toNatClampNeg (mH k.toNatClampNeg) i.toNatClampNeg = mH i.toNatClampNeg
    rw [zup H1 i0]
    by_cases q : i = k
    · rw [if_pos q, q]
    · rw [if_neg q]; exact H3 i i0 (by grind)
theorem zTrG {cN : Int32} {mN mG mTr : Nat → Int32} {g f : Int32} {x : Nat → Int32} (hN : mN 0 = cN ∧ 0 ≤ cN ∧ cN ≤ 14) (h : fn_X12_triesGroup g f mN mG mTr = some x) : ∀ i : Int32, 0 ≤ i → i < cN → x i.toNatClampNeg = if mG i.toNatClampNeg = g then f else mTr i.toNatClampNeg := by
  unfold fn_X12_triesGroup at h
  rw [zn01.1, hN.1] at h
  refine zl_ip (P := fun x : Nat → Int32 => ∀ i : Int32, 0 ≤ i → i < cN → x i.toNatClampNeg = if mG i.toNatClampNeg = g then f else mTr i.toNatClampNeg) (fun s => 0 ≤ s.1 ∧ s.1 ≤ cN ∧ (∀ i : Int32, 0 ≤ i → i < s.1 → s.2 i.toNatClampNeg = if mG i.toNatClampNeg = g then f else mTr i.toNatClampNeg) ∧ (∀ i : Int32, 0 ≤ i → s.1 ≤ i → s.2 i.toNatClampNeg = mTr i.toNatClampNeg)) ?_ _ _ _ ?_ h
  rotate_left
  · exact ⟨(show (0 : Int32) ≤ 0 by decide), hN.2.1, fun i i0 i1 => absurd i1 (by show ¬ i < 0; grind), fun _ _ _ => rfl⟩
  intro s back o ⟨H1, H2, H3, H4⟩ hb ho
  obtain ⟨k, row⟩ := s
  dsimp only at H1 H2 H3 H4 ho
  by_cases c : cN ≤ k
  · rw [if_pos c] at ho
    rw [← Option.some.inj ho]
    exact fun i i0 i1 => H3 i i0 (by grind)
  · rw [if_neg c] at ho
    obtain ⟨-, ho⟩ := zg_s ho
    have nxt : ∀ v : Int32, v = (if mG k.toNatClampNeg = g then f else mTr k.toNatClampNeg) → back (k + 1, upd row k.toNatClampNeg v) = some o → ∀ i : Int32, 0 ≤ i → i < cN → o i.toNatClampNeg = if mG i.toNatClampNeg = g then f else mTr i.toNatClampNeg := by
      intro v hv hbk
      refine hb _ _ ?_ hbk
      refine ⟨(show 0 ≤ k + 1 by grind), (show k + 1 ≤ cN by grind), fun i i0 i1 => ?_, fun i i0 i1 => ?_⟩
      · have i1 : i < k + 1 := i1
        show upd row k.toNatClampNeg v i.toNatClampNeg = _
        rw [zup H1 i0]
        by_cases q : i = k
        · rw [if_pos q, hv, q]
        · rw [if_neg q]; exact H3 i i0 (by grind)
      · have i1 : k + 1 ≤ i := i1
        show upd row k.toNatClampNeg v i.toNatClampNeg = _
        rw [zup H1 i0, if_neg (by grind)]; exact H4 i i0 (by grind)
    by_cases d : mG k.toNatClampNeg = g
    · rw [if_pos d] at ho
      obtain ⟨-, ho⟩ := zg_s ho
      exact nxt f (by rw [if_pos d]) ho
    · rw [if_neg d] at ho
      obtain ⟨-, ho⟩ := zg_s ho
      exact nxt (row k.toNatClampNeg) (by rw [if_neg d]; exact H4 k H1 (by grind)) ho
theorem zCh_c {cN cF : Int32} {gof ch t t' : Nat → Int32} (C : zCh cN cF gof ch t) (h : ∀ i : Int32, 0 ≤ i → i < cN → t' i.toNatClampNeg = t i.toNatClampNeg) : zCh cN cF gof ch t' := by
  intro i i0 i1
  obtain ⟨c1, c2, c3, c4⟩ := C i i0 i1
  rw [h i i0 i1]
  exact ⟨c1, c2, c3, c4⟩
