/-! what is told of a TASK -/
theorem zct_lt {b : Nat → Bool} {a c : Int32} (h0 : 0 ≤ a) (h1 : a < c) (h2 : c ≤ 14) (hl : b a.toNatClampNeg = true) : zct b a.toNatClampNeg < zct b c.toNatClampNeg := by
  have e := zct_t h0 (show a ≤ 1200 by grind) hl
  have m : zct b (a + 1).toNatClampNeg ≤ zct b c.toNatClampNeg := zct_m32 (by grind) (by grind) h2
  have r := zct_b32 (b := b) h0 (show a ≤ 14 by grind)
  rw [e] at m
  generalize zct b a.toNatClampNeg = u at m r ⊢
  generalize zct b c.toNatClampNeg = v at m ⊢
  grind
theorem zcnt_loop {b : Nat → Bool} {n x : Int32} {B : Int32 × Int32 → (Int32 × Int32 → Option Int32) → Option Int32} (hn : 0 ≤ n ∧ n ≤ 14) (hB : ∀ (c i : Int32) (back : Int32 × Int32 → Option Int32) (o : Int32), 0 ≤ i → B (c, i) back = some o → (n ≤ i ∧ o = c) ∨ (i < n ∧ b i.toNatClampNeg = true ∧ back (c + 1, i + 1) = some o) ∨ (i < n ∧ ¬ b i.toNatClampNeg = true ∧ back (c + 0, i + 1) = some o)) (h : zl B 100000 (0, 0) = some x) : x = zct b n.toNatClampNeg := by
  refine zl_ip (P := fun x => x = zct b n.toNatClampNeg) (fun s => 0 ≤ s.2 ∧ s.2 ≤ n ∧ s.1 = zct b s.2.toNatClampNeg) ?_ _ _ _ ?_ h
  rotate_left
  · exact ⟨(show (0 : Int32) ≤ 0 by decide), hn.1, by show (0 : Int32) = zct _ (0 : Int32).toNatClampNeg; rw [zn01.1]; rfl⟩
  intro s back o ⟨H1, H2, H3⟩ hb ho
  obtain ⟨c, i⟩ := s
  dsimp only at H1 H2 H3
  rcases hB c i back o H1 ho with ⟨a1, a2⟩ | ⟨a1, a2, a3⟩ | ⟨a1, a2, a3⟩
  · rw [a2, H3, show i = n by grind]
  · refine hb _ _ ?_ a3
    exact ⟨(show 0 ≤ i + 1 by grind), (show i + 1 ≤ n by grind), (show c + 1 = zct b (i + 1).toNatClampNeg by rw [zct_t H1 (by grind) a2, H3])⟩
  · refine hb _ _ ?_ a3
    exact ⟨(show 0 ≤ i + 1 by grind), (show i + 1 ≤ n by grind), (show c + 0 = zct b (i + 1).toNatClampNeg by rw [zct_f H1 (by grind) a2, H3, Int32.add_zero])⟩
theorem zHasN (p n : Int32) : fn_X9_hasNumber p n = some (if 0 ≤ p ∧ p < n then 1 else 0) := by
  unfold fn_X9_hasNumber
  grind
theorem zHasF (p n : Int32) : fn_X9_hasFormat p n = some (if 0 ≤ p ∧ p < n then 1 else 0) := by
  unfold fn_X9_hasFormat
  grind
theorem zIsNum {p : Int32} {f : Nat → Int32} (h : 0 ≤ f 0) : fn_X12_isNumber p f = some (if 0 ≤ p ∧ p < f 0 then 1 else 0) := by
  unfold fn_X12_isNumber
  simp only [zIsIn, zb_some, zn01.1, z64_ge0, z64_ltm _ _ h]
theorem zIsFmt {p : Int32} {f : Nat → Int32} (h : 0 ≤ f 0) : fn_X12_isFormat p f = some (if 0 ≤ p ∧ p < f 0 then 1 else 0) := by
  unfold fn_X12_isFormat
  simp only [zIsIn, zb_some, zn01.1, z64_ge0, z64_ltm _ _ h]
theorem zMade0 {i cN : Int32} {made : Nat → Int32} (hN : cN ≤ 14) (hi : 0 ≤ i ∧ i < cN) : fn_X4_madeOf i 0 cN made = some (made (2 * i + 0).toNatClampNeg) := by
  unfold fn_X4_madeOf
  rw [if_neg (by grind), if_neg (by grind), if_neg (by decide), if_neg (by decide), zg_in 28 (by decide +kernel) (by grind)]
theorem zMade1 {i cN : Int32} {made : Nat → Int32} (hN : cN ≤ 14) (hi : 0 ≤ i ∧ i < cN) : fn_X4_madeOf i 1 cN made = some (made (2 * i + 1).toNatClampNeg) := by
  unfold fn_X4_madeOf
  rw [if_neg (by grind), if_neg (by grind), if_neg (by decide), if_neg (by decide), zg_in 28 (by decide +kernel) (by grind)]
theorem zAmt0 {i cN : Int32} {made : Nat → Int32} (hN : cN ≤ 14) (hi : 0 ≤ i ∧ i < cN) : fn_X4_amountOf i 0 cN made = some (made (2 * i + 0).toNatClampNeg).toInt64 := by
  unfold fn_X4_amountOf
  rw [if_neg (by grind), if_neg (by grind), if_neg (by decide), if_neg (by decide), zg_in 28 (by decide +kernel) (by grind)]
theorem zAmt1 {i cN : Int32} {made : Nat → Int32} (hN : cN ≤ 14) (hi : 0 ≤ i ∧ i < cN) : fn_X4_amountOf i 1 cN made = some (made (2 * i + 1).toNatClampNeg).toInt64 := by
  unfold fn_X4_amountOf
  rw [if_neg (by grind), if_neg (by grind), if_neg (by decide), if_neg (by decide), zg_in 28 (by decide +kernel) (by grind)]
theorem zif1 {c : Prop} [Decidable c] : ((if c then (1 : Int32) else 0) = 0) = ¬ c := by
  by_cases h : c
  · rw [if_pos h]; exact propext ⟨fun q => absurd q (by decide), fun q => absurd h q⟩
  · rw [if_neg h]; exact propext ⟨fun _ => h, fun _ => rfl⟩
theorem zeq_format {cF cc cN inp : Int32} {nF nN stp mst prc al made amt op fx jn lets mF mN mCst mNF mNN mS mM mC mW mO m1 m2 mX mG : Nat → Int32} {mA mB : Nat → Int64} {p1 p2 x y : Int32} (T : zTN cF cc cN inp nF nN stp mst prc al made amt op fx jn lets mF mN mNF mNN mS mM mC mW mCst mO m1 m2 mX mG mA mB) (h1 : fn_X11_format p1 p2 cF stp mst prc = some x) (h2 : fn_X12_format p1 p2 mF mC mM mS = some y) : x = y := by
  obtain ⟨⟨f1, f2, f3⟩, hN, hC, hz, hp, hI, hf, hn, hg⟩ := T
  unfold fn_X11_format at h1
  unfold fn_X12_format at h2
  rw [zHasF, zb_some] at h1
  rw [zIsFmt (by rw [f1]; exact f2), zb_some, f1] at h2
  by_cases c : 0 ≤ p1 ∧ p1 < cF
  · rw [if_neg (by rw [zif1]; exact fun q => q c)] at h1 h2
    obtain ⟨q1, q2, q3, q4, q5⟩ := hf p1 c.1 c.2
    by_cases d0 : p2 = 0
    · rw [if_pos d0] at h1 h2
      obtain ⟨-, h1⟩ := zg_s h1
      obtain ⟨-, h2⟩ := zg_s h2
      rw [← Option.some.inj h1, ← Option.some.inj h2]; exact q2
    · rw [if_neg d0] at h1 h2
      by_cases d1 : p2 = 1
      · rw [if_pos d1] at h1 h2
        obtain ⟨-, h1⟩ := zg_s h1
        obtain ⟨-, h2⟩ := zg_s h2
        rw [← Option.some.inj h1, ← Option.some.inj h2]; exact q3
      · rw [if_neg d1] at h1 h2
        by_cases d2 : p2 = 2
        · rw [if_pos d2] at h1 h2
          obtain ⟨-, h1⟩ := zg_s h1
          obtain ⟨-, h2⟩ := zg_s h2
          rw [← Option.some.inj h1, ← Option.some.inj h2]; exact q4
        · rw [if_neg d2] at h1 h2
          rw [← Option.some.inj h1, ← Option.some.inj h2]
  · rw [if_pos (by rw [zif1]; exact c)] at h1 h2
    rw [← Option.some.inj h1, ← Option.some.inj h2]
theorem zGrPl {mG : Nat → Int32} {p1 x : Int32} (hg : 0 ≤ mG p1.toNatClampNeg ∧ mG p1.toNatClampNeg ≤ 14) (h : fn_X12_groupPlace p1 mG = some x) : x = zRk mG (mG p1.toNatClampNeg).toNatClampNeg := by
  unfold fn_X12_groupPlace at h
  refine zcnt_loop (b := fun k => decide (mG k = Int32.ofNat k)) hg (fun c i back o hi ho => ?_) h
  obtain ⟨-, ho⟩ := zg_s ho
  try dsimp only at ho
  by_cases q : mG p1.toNatClampNeg ≤ i
  · rw [if_pos q] at ho
    exact Or.inl ⟨q, (Option.some.inj ho).symm⟩
  · rw [if_neg q] at ho
    obtain ⟨-, ho⟩ := zg_s ho
    by_cases d : mG i.toNatClampNeg = i
    · rw [if_pos d] at ho
      exact Or.inr (Or.inl ⟨by grind, by rw [zofn' i hi]; exact decide_eq_true d, ho⟩)
    · rw [if_neg d] at ho
      exact Or.inr (Or.inr ⟨by grind, by rw [zofn' i hi]; exact fun w => d (of_decide_eq_true w), ho⟩)
theorem zeq_number {cF cc cN inp gc gfr gcl : Int32} {nF nN stp mst prc al made amt op fx jn lets gof gfx gld mF mN mCst mNF mNN mS mM mC mW mO m1 m2 mX mG : Nat → Int32} {mA mB : Nat → Int64} {p1 p2 x y : Int32} (T : zTN cF cc cN inp nF nN stp mst prc al made amt op fx jn lets mF mN mNF mNN mS mM mC mW mCst mO m1 m2 mX mG mA mB) (G : zGp cN gc gfr gcl gof gfx gld fx mG) (h1 : fn_X11_number p1 p2 cN op made gof fx al = some x) (h2 : fn_X12_number_ p1 p2 mN mO m1 m2 mG mX mW = some y) : x = y := by
  obtain ⟨hF, ⟨n1, n2, n3⟩, hC, hz, hp, hI, hf, hn, hg⟩ := T
  unfold fn_X11_number at h1
  unfold fn_X12_number_ at h2
  rw [zHasN, zb_some] at h1
  rw [zIsNum (by rw [n1]; exact n2), zb_some, n1] at h2
  by_cases c : 0 ≤ p1 ∧ p1 < cN
  · rw [if_neg (by rw [zif1]; exact fun q => q c)] at h1 h2
    obtain ⟨q1, q2, q3, q4, q5, q6, q7⟩ := hn p1 c.1 c.2
    by_cases d0 : p2 = 0
    · rw [if_pos d0] at h1 h2
      obtain ⟨-, h1⟩ := zg_s h1
      obtain ⟨-, h2⟩ := zg_s h2
      rw [← Option.some.inj h1, ← Option.some.inj h2]; exact q2
    · rw [if_neg d0] at h1 h2
      by_cases d1 : p2 = 1
      · rw [if_pos d1] at h1 h2
        rw [zMade0 n3 c, zb_some] at h1
        obtain ⟨-, h2⟩ := zg_s h2
        rw [← Option.some.inj h1, ← Option.some.inj h2]; exact q5
      · rw [if_neg d1] at h1 h2
        by_cases d2 : p2 = 2
        · rw [if_pos d2] at h1 h2
          rw [zMade1 n3 c, zb_some] at h1
          obtain ⟨-, h2⟩ := zg_s h2
          rw [← Option.some.inj h1, ← Option.some.inj h2]; exact q6
        · rw [if_neg d2] at h1 h2
          by_cases d3 : p2 = 3
          · rw [if_pos d3] at h1 h2
            obtain ⟨-, h1⟩ := zg_s h1
            obtain ⟨z, hz, h2⟩ := zb_s h2
            have hgi := hg.1 p1 c.1 c.2
            have e := zGrPl ⟨hgi.1, by grind⟩ hz
            rw [← Option.some.inj h1, ← Option.some.inj h2, e]
            exact G.1.2.1 p1 c.1 c.2
          · rw [if_neg d3] at h1 h2
            by_cases d4 : p2 = 4
            · rw [if_pos d4] at h1 h2
              obtain ⟨-, h1⟩ := zg_s h1
              obtain ⟨-, h2⟩ := zg_s h2
              rw [← Option.some.inj h1, ← Option.some.inj h2]; exact q3
            · rw [if_neg d4] at h1 h2
              by_cases d5 : p2 = 5
              · rw [if_pos d5] at h1 h2
                obtain ⟨-, h1⟩ := zg_s h1
                obtain ⟨-, h2⟩ := zg_s h2
                rw [← Option.some.inj h1, ← Option.some.inj h2]; exact q4
              · rw [if_neg d5] at h1 h2
                rw [← Option.some.inj h1, ← Option.some.inj h2]
  · rw [if_pos (by rw [zif1]; exact c)] at h1 h2
    rw [← Option.some.inj h1, ← Option.some.inj h2]
theorem zeq_told {cF cc cN inp : Int32} {nF nN stp mst prc al made amt op fx jn lets mF mN mCst mNF mNN mS mM mC mW mO m1 m2 mX mG : Nat → Int32} {mA mB : Nat → Int64} {p1 p2 : Int32} {x y : Int64} (T : zTN cF cc cN inp nF nN stp mst prc al made amt op fx jn lets mF mN mNF mNN mS mM mC mW mCst mO m1 m2 mX mG mA mB) (h1 : fn_X11_told p1 p2 cN made amt = some x) (h2 : fn_X12_told p1 p2 mN mO m2 m1 mB mA = some y) : x = y := by
  obtain ⟨hF, ⟨n1, n2, n3⟩, hC, hz, hp, hI, hf, hn, hg⟩ := T
  unfold fn_X11_told at h1
  unfold fn_X12_told at h2
  rw [zHasN, zb_some] at h1
  rw [zIsNum (by rw [n1]; exact n2), zb_some, n1] at h2
  by_cases c : 0 ≤ p1 ∧ p1 < cN
  · rw [if_neg (by rw [zif1]; exact fun q => q c)] at h1 h2
    obtain ⟨q1, q2, q3, q4, q5, q6, q7, q8, q9, q10, q11, q12, q13, q14, q15, q16, q17⟩ := hn p1 c.1 c.2
    simp only [zIsIn, zb_some, z64_ge0, zj] at h2
    have hin : p2.toInt64 ≤ (1 : Int64) ↔ p2 ≤ 1 := by rw [show (1 : Int64) = (1 : Int32).toInt64 by decide +kernel, z64_le]
    simp only [hin] at h2
    by_cases d : 0 ≤ p2 ∧ p2 ≤ 1
    · rw [if_neg (by rw [zif1]; exact fun q => q d)] at h2
      rw [if_neg (by grind), if_pos d.2] at h1
      obtain ⟨-, h2⟩ := zg_s h2
      by_cases d0 : p2 = 0
      · subst d0
        rw [zMade0 n3 c, zb_some, zAmt0 n3 c] at h1
        simp only [if_true, zb_some] at h1 h2
        by_cases e0 : made (2 * p1 + 0).toNatClampNeg = (-1)
        · rw [if_pos e0] at h1
          have h2' : y = mA p1.toNatClampNeg := by
            by_cases w : mO p1.toNatClampNeg = 0
            · rw [if_pos w] at h2
              obtain ⟨-, h2⟩ := zg_s h2
              exact (Option.some.inj h2).symm
            · rw [if_neg w, if_pos (q5.symm.trans e0)] at h2
              obtain ⟨-, h2⟩ := zg_s h2
              exact (Option.some.inj h2).symm
          rw [← Option.some.inj h1, h2', q7]
        · rw [if_neg e0] at h1
          have w : ¬ mO p1.toNatClampNeg = 0 := fun w => e0 (q16 (q2.trans w)).1
          rw [if_neg w, if_neg (fun u => e0 (q5.trans u))] at h2
          rw [← Option.some.inj h1, ← Option.some.inj h2]
      · have d1 : p2 = 1 := by grind
        subst d1
        rw [zMade1 n3 c, zb_some, zAmt1 n3 c] at h1
        simp only [if_neg d0, zb_some] at h1 h2
        by_cases e0 : made (2 * p1 + 1).toNatClampNeg = (-1)
        · rw [if_pos e0] at h1
          have h2' : y = mB p1.toNatClampNeg := by
            by_cases w : mO p1.toNatClampNeg = 0
            · rw [if_pos w] at h2
              obtain ⟨-, h2⟩ := zg_s h2
              exact (Option.some.inj h2).symm
            · rw [if_neg w, if_pos (q6.symm.trans e0)] at h2
              obtain ⟨-, h2⟩ := zg_s h2
              exact (Option.some.inj h2).symm
          rw [← Option.some.inj h1, h2', q8]
        · rw [if_neg e0] at h1
          have w : ¬ mO p1.toNatClampNeg = 0 := fun w => e0 (q16 (q2.trans w)).2.1
          rw [if_neg w, if_neg (fun u => e0 (q6.trans u))] at h2
          rw [← Option.some.inj h1, ← Option.some.inj h2]
    · rw [if_pos (by rw [zif1]; exact d)] at h2
      by_cases e : p2 < 0
      · rw [if_pos e] at h1
        rw [← Option.some.inj h1, ← Option.some.inj h2]
      · rw [if_neg e, if_neg (by grind)] at h1
        rw [← Option.some.inj h1, ← Option.some.inj h2]
  · rw [if_pos (by rw [zif1]; exact c)] at h1 h2
    rw [← Option.some.inj h1, ← Option.some.inj h2]
theorem zDeepOf {p x : Int32} {f : Nat → Int32} (h : fn_X12_deepOf p f = some x) : x = if p = (-1) then 0 else f p.toNatClampNeg := by
  unfold fn_X12_deepOf at h
  by_cases c : p = (-1)
  · rw [if_pos c] at h ⊢
    exact (Option.some.inj h).symm
  · rw [if_neg c] at h ⊢
    obtain ⟨-, h⟩ := zg_s h
    exact (Option.some.inj h).symm
theorem zeq_depth {cF cc cN inp : Int32} {nF nN stp mst prc al made amt op fx jn lets mF mN mCst mNF mNN mS mM mC mW mO m1 m2 mX mG mDp : Nat → Int32} {mA mB : Nat → Int64} {p1 x : Int32} {y : Int32 × (Nat → Int32)} (T : zTN cF cc cN inp nF nN stp mst prc al made amt op fx jn lets mF mN mNF mNN mS mM mC mW mCst mO m1 m2 mX mG mA mB) (h1 : fn_X11_depth p1 cN lets = some x) (h2 : fn_X12_depth p1 mN m1 mDp m2 mO = some y) : x = y.1 := by
  obtain ⟨hF, ⟨n1, n2, n3⟩, hC, hz, hp, hI, hf, hn, hg⟩ := T
  unfold fn_X11_depth at h1
  unfold fn_X12_depth at h2
  rw [zHasN, zb_some] at h1
  rw [zIsNum (by rw [n1]; exact n2), zb_some, n1] at h2
  by_cases c : 0 ≤ p1 ∧ p1 < cN
  · rw [if_neg (by rw [zif1]; exact fun q => q c)] at h1 h2
    obtain ⟨-, h1⟩ := zg_s h1
    rw [← Option.some.inj h1]
    refine zl_ip (P := fun y : Int32 × (Nat → Int32) => lets p1.toNatClampNeg = y.1) (fun s => 0 ≤ s.1 ∧ s.1 ≤ p1 + 1 ∧ ∀ j : Int32, 0 ≤ j → j < s.1 → s.2 j.toNatClampNeg = lets j.toNatClampNeg) ?_ _ _ _ ?_ h2
    rotate_left
    · exact ⟨(show (0 : Int32) ≤ 0 by decide), (show 0 ≤ p1 + 1 by grind), fun j j1 j2 => absurd j2 (by show ¬ j < 0; grind)⟩
    intro s back o ⟨H1, H2, H3⟩ hb ho
    obtain ⟨k, row⟩ := s
    dsimp only at H1 H2 H3 ho
    by_cases e : p1 < k
    · rw [if_pos e] at ho
      obtain ⟨-, ho⟩ := zg_s ho
      rw [← Option.some.inj ho]
      exact (H3 p1 c.1 e).symm
    · rw [if_neg e] at ho
      obtain ⟨-, ho⟩ := zg_s ho
      obtain ⟨a, ha, ho⟩ := zb_s ho
      obtain ⟨b, hb', ho⟩ := zb_s ho
      have ha := zDeepOf ha
      have hb' := zDeepOf hb'
      obtain ⟨q1, q2, q3, q4, q5, q6, q7, q8, q9, q10, q11, q12, q13, q14, q15, q16, q17⟩ := hn k H1 (by grind)
      have ea : a = zLets k made lets 0 := by
        unfold zLets
        rw [ha, ← q5]
        by_cases w : made (2 * k + 0).toNatClampNeg = (-1)
        · rw [if_pos w, if_pos (Or.inl (by rw [w]; decide))]
        · rw [if_neg w, if_neg (by grind), H3 _ (by grind) q12.2]
      have eb : b = zLets k made lets 1 := by
        unfold zLets
        rw [hb', ← q6]
        by_cases w : made (2 * k + 1).toNatClampNeg = (-1)
        · rw [if_pos w, if_pos (Or.inl (by rw [w]; decide))]
        · rw [if_neg w, if_neg (by grind), H3 _ (by grind) q13.2]
      have fin : ∀ v : Int32, v = lets k.toNatClampNeg → back (k + 1, upd row k.toNatClampNeg v) = some o → lets p1.toNatClampNeg = o.1 := by
        intro v hv hbk
        refine hb _ _ ?_ hbk
        refine ⟨(show 0 ≤ k + 1 by grind), (show k + 1 ≤ p1 + 1 by grind), fun j j1 j2 => ?_⟩
        have j2 : j < k + 1 := j2
        show upd row k.toNatClampNeg v j.toNatClampNeg = lets j.toNatClampNeg
        rw [zup H1 j1]
        by_cases w : j = k
        · rw [if_pos w, hv, w]
        · rw [if_neg w]; exact H3 j j1 (by grind)
      unfold zDeep at q17
      rw [← ea, ← eb, q2] at q17
      by_cases w : mO k.toNatClampNeg = 0
      · rw [if_pos w] at ho q17
        obtain ⟨-, ho⟩ := zg_s ho
        exact fin 0 q17.symm ho
      · rw [if_neg w] at ho q17
        by_cases v : a ≤ b
        · rw [if_pos v] at ho
          obtain ⟨-, ho⟩ := zg_s ho
          refine fin (b + 1) ?_ ho
          rw [q17, Int32.add_comm]
          by_cases u : a < b
          · rw [if_pos u]
          · rw [if_neg u, show a = b by grind]
        · rw [if_neg v] at ho
          obtain ⟨-, ho⟩ := zg_s ho
          refine fin (a + 1) ?_ ho
          rw [q17, Int32.add_comm, if_neg (by grind)]
  · rw [if_pos (by rw [zif1]; exact c)] at h1 h2
    rw [← Option.some.inj h1, ← Option.some.inj h2]
/-! has -/
theorem zCnt_c (op : Nat → Int32) : ∀ k : Nat, zCnt op k = zct (fun k => decide (op k = 0)) k := by
  intro k
  induction k with
  | zero => rfl
  | succ k ih =>
    show zCnt op k + (if op k = 0 then 1 else 0) = zct _ k + (if decide (op k = 0) = true then 1 else 0)
    rw [ih]
    by_cases c : op k = 0
    · rw [if_pos c, if_pos (decide_eq_true c)]
    · rw [if_neg c, if_neg (fun q => c (of_decide_eq_true q))]
theorem zIsFree {cN : Int32} {mN mX mG : Nat → Int32} {g x : Int32} (hN : mN 0 = cN ∧ 0 ≤ cN ∧ cN ≤ 14) (h : fn_X12_isFree g mN mG mX = some x) : x = 1 ∧ zFree cN mG mX g ∨ x = 0 ∧ ¬ zFree cN mG mX g := by
  unfold fn_X12_isFree at h
  rw [zn01.1, hN.1] at h
  refine zl_ip (P := fun x => x = 1 ∧ zFree cN mG mX g ∨ x = 0 ∧ ¬ zFree cN mG mX g) (fun s => 0 ≤ s ∧ ∀ o : Int32, 0 ≤ o → o < s → mG o.toNatClampNeg = g → mX o.toNatClampNeg = (-1)) ?_ _ _ _ ?_ h
  rotate_left
  · exact ⟨by decide, fun o o1 o2 => by grind⟩
  intro s back o ⟨H1, H2⟩ hb ho
  have nxt : s < cN → (mG s.toNatClampNeg = g → mX s.toNatClampNeg = (-1)) → back (s + 1) = some o → (o = 1 ∧ zFree cN mG mX g ∨ o = 0 ∧ ¬ zFree cN mG mX g) := by
    intro k1 k2 k3
    refine hb _ _ ?_ k3
    refine ⟨by grind, fun j j1 j2 j3 => ?_⟩
    by_cases q : j = s
    · rw [q] at j3 ⊢; exact k2 j3
    · exact H2 j j1 (by grind) j3
  by_cases c : cN ≤ s
  · rw [if_pos c] at ho
    exact Or.inl ⟨(Option.some.inj ho).symm, fun j j1 j2 j3 => H2 j j1 (by grind) j3⟩
  · rw [if_neg c] at ho
    obtain ⟨-, ho⟩ := zg_s ho
    by_cases d : mG s.toNatClampNeg = g
    · rw [if_pos d] at ho
      by_cases e : mX s.toNatClampNeg = (-1)
      · rw [if_pos e] at ho
        exact nxt (by grind) (fun _ => e) ho
      · rw [if_neg e] at ho
        exact Or.inr ⟨(Option.some.inj ho).symm, fun q => e (q s H1 (by grind) d)⟩
    · rw [if_neg d] at ho
      exact nxt (by grind) (fun q => absurd q d) ho
theorem zFree_c {cN g : Int32} {mG fx mX : Nat → Int32} (h : ∀ i : Int32, 0 ≤ i → i < cN → fx i.toNatClampNeg = mX i.toNatClampNeg) : zFree cN mG fx g ↔ zFree cN mG mX g :=
  ⟨fun q o o1 o2 o3 => (h o o1 o2).symm.trans (q o o1 o2 o3), fun q o o1 o2 o3 => (h o o1 o2).trans (q o o1 o2 o3)⟩
noncomputable def zFk (gfx mG : Nat → Int32) : Nat → Int32 := zct (fun k => decide (mG k = Int32.ofNat k ∧ gfx (zRk mG k).toNatClampNeg = (-1)))
theorem zFk_b {gfx mG : Nat → Int32} {k : Int32} (h0 : 0 ≤ k) (h : mG k.toNatClampNeg = k) (h2 : gfx (zRk mG k.toNatClampNeg).toNatClampNeg = (-1)) : decide (mG k.toNatClampNeg = Int32.ofNat k.toNatClampNeg ∧ gfx (zRk mG k.toNatClampNeg).toNatClampNeg = (-1)) = true := by
  rw [zofn' k h0]
  exact decide_eq_true ⟨h, h2⟩
theorem zLaysFree {cF cc cN inp gc gfr gcl : Int32} {nF nN stp mst prc al made amt op fx jn lets gof gfx gld mF mN mCst mNF mNN mS mM mC mW mO m1 m2 mX mG mFr : Nat → Int32} {mA mB : Nat → Int64} {x : Int32 × (Nat → Int32)} (T : zTN cF cc cN inp nF nN stp mst prc al made amt op fx jn lets mF mN mNF mNN mS mM mC mW mCst mO m1 m2 mX mG mA mB) (G : zGp cN gc gfr gcl gof gfx gld fx mG) (h : fn_X12_laysFree mN mG mX mFr = some x) : x.1 = zFk gfx mG cN.toNatClampNeg ∧ (∀ k : Int32, 0 ≤ k → k < cN → mG k.toNatClampNeg = k → gfx (zRk mG k.toNatClampNeg).toNatClampNeg = (-1) → x.2 (zFk gfx mG k.toNatClampNeg).toNatClampNeg = k) := by
  obtain ⟨hF, hN, hC, hz, hp, hI, hf, hn, hg⟩ := T
  have hfr : ∀ k : Int32, 0 ≤ k → k < cN → mG k.toNatClampNeg = k → (gfx (zRk mG k.toNatClampNeg).toNatClampNeg = (-1) ↔ zFree cN mG mX k) := fun k k1 k2 k3 => (zFxS_f (G.1.2.2.1 k k1 k2 k3).2).trans (zFree_c (fun i i1 i2 => (hn i i1 i2).2.2.1))
  unfold fn_X12_laysFree at h
  rw [zn01.1, hN.1] at h
  refine zl_ip (P := fun x : Int32 × (Nat → Int32) => x.1 = zFk gfx mG cN.toNatClampNeg ∧ (∀ k : Int32, 0 ≤ k → k < cN → mG k.toNatClampNeg = k → gfx (zRk mG k.toNatClampNeg).toNatClampNeg = (-1) → x.2 (zFk gfx mG k.toNatClampNeg).toNatClampNeg = k)) (fun s => 0 ≤ s.1 ∧ s.1 ≤ cN ∧ s.2.1 = zFk gfx mG s.1.toNatClampNeg ∧ (∀ k : Int32, 0 ≤ k → k < s.1 → mG k.toNatClampNeg = k → gfx (zRk mG k.toNatClampNeg).toNatClampNeg = (-1) → s.2.2 (zFk gfx mG k.toNatClampNeg).toNatClampNeg = k)) ?_ _ _ _ ?_ h
  rotate_left
  · exact ⟨(show (0 : Int32) ≤ 0 by decide), hN.2.1, by show (0 : Int32) = zct _ (0 : Int32).toNatClampNeg; rw [zn01.1]; rfl, fun k k1 k2 => absurd k2 (by show ¬ k < 0; grind)⟩
  intro s back o ⟨H1, H2, H3, H4⟩ hb ho
  obtain ⟨k, n, row⟩ := s
  dsimp only at H1 H2 H3 H4 ho
  by_cases c : cN ≤ k
  · rw [if_pos c] at ho
    have e : k = cN := by grind
    subst e
    rw [← Option.some.inj ho]
    exact ⟨H3, H4⟩
  · rw [if_neg c] at ho
    obtain ⟨-, ho⟩ := zg_s ho
    have hk : k < cN := by grind
    have skip : ¬ (mG k.toNatClampNeg = k ∧ gfx (zRk mG k.toNatClampNeg).toNatClampNeg = (-1)) → back (k + 1, n, row) = some o → (o.1 = zFk gfx mG cN.toNatClampNeg ∧ (∀ k : Int32, 0 ≤ k → k < cN → mG k.toNatClampNeg = k → gfx (zRk mG k.toNatClampNeg).toNatClampNeg = (-1) → o.2 (zFk gfx mG k.toNatClampNeg).toNatClampNeg = k)) := by
      intro w hbk
      refine hb _ _ ?_ hbk
      refine ⟨(show 0 ≤ k + 1 by grind), (show k + 1 ≤ cN by grind), ?_, fun j j1 j2 j3 j4 => ?_⟩
      · show n = zct _ (k + 1).toNatClampNeg
        rw [zct_f H1 (by grind) (by rw [zofn' k H1]; exact fun q => w (of_decide_eq_true q))]
        exact H3
      · have j2 : j < k + 1 := j2
        by_cases q : j = k
        · rw [q] at j3 j4; exact absurd ⟨j3, j4⟩ w
        · exact H4 j j1 (by grind) j3 j4
    by_cases d : mG k.toNatClampNeg = k
    · rw [if_pos d] at ho
      obtain ⟨z, hz, ho⟩ := zb_s ho
      rcases zIsFree hN hz with ⟨z1, z2⟩ | ⟨z1, z2⟩
      · rw [if_neg (by rw [z1]; decide)] at ho
        obtain ⟨-, ho⟩ := zg_s ho
        have g1 := (hfr k H1 hk d).mpr z2
        refine hb _ _ ?_ ho
        refine ⟨(show 0 ≤ k + 1 by grind), (show k + 1 ≤ cN by grind), ?_, fun j j1 j2 j3 j4 => ?_⟩
        · show n + 1 = zct _ (k + 1).toNatClampNeg
          rw [zct_t H1 (by grind) (zFk_b H1 d g1), H3]
          rfl
        · have j2 : j < k + 1 := j2
          have nk : 0 ≤ zFk gfx mG k.toNatClampNeg := (zct_b32 H1 (show k ≤ 14 by grind)).1
          have nj : 0 ≤ zFk gfx mG j.toNatClampNeg := (zct_b32 j1 (show j ≤ 14 by grind)).1
          show upd row n.toNatClampNeg k (zFk gfx mG j.toNatClampNeg).toNatClampNeg = j
          rw [H3, zup nk nj]
          by_cases q : j = k
          · rw [if_pos (by rw [q]), q]
          · have lt : zFk gfx mG j.toNatClampNeg < zFk gfx mG k.toNatClampNeg := zct_lt j1 (show j < k by grind) (by grind) (zFk_b j1 j3 j4)
            rw [if_neg (fun w => by rw [w] at lt; exact absurd lt (by grind))]
            exact H4 j j1 (by grind) j3 j4
      · rw [if_pos z1] at ho
        exact skip (fun q => z2 ((hfr k H1 hk d).mp q.2)) ho
    · rw [if_neg d] at ho
      exact skip (fun q => d q.1) ho
theorem zInputs {mN mO : Nat → Int32} {x : Int32} (hN : 0 ≤ mN 0 ∧ mN 0 ≤ 14) (h : fn_X12_inputs mN mO = some x) : x = zct (fun k => decide (mO k = 0)) (mN 0).toNatClampNeg := by
  unfold fn_X12_inputs at h
  rw [zn01.1] at h
  refine zcnt_loop hN (fun c i back o hi ho => ?_) h
  try dsimp only at ho
  by_cases q : mN 0 ≤ i
  · rw [if_pos q] at ho
    exact Or.inl ⟨q, (Option.some.inj ho).symm⟩
  · rw [if_neg q] at ho
    obtain ⟨-, ho⟩ := zg_s ho
    by_cases d : mO i.toNatClampNeg = 0
    · rw [if_pos d] at ho
      exact Or.inr (Or.inl ⟨by grind, decide_eq_true d, ho⟩)
    · rw [if_neg d] at ho
      exact Or.inr (Or.inr ⟨by grind, fun w => d (of_decide_eq_true w), ho⟩)
theorem zAnswers {mN mW : Nat → Int32} {x : Int32} (hN : 0 ≤ mN 0 ∧ mN 0 ≤ 14) (h : fn_X12_answers mN mW = some x) : x = zct (fun k => decide (¬ mW k = (-1))) (mN 0).toNatClampNeg := by
  unfold fn_X12_answers at h
  rw [zn01.1] at h
  refine zcnt_loop hN (fun c i back o hi ho => ?_) h
  try dsimp only at ho
  by_cases q : mN 0 ≤ i
  · rw [if_pos q] at ho
    exact Or.inl ⟨q, (Option.some.inj ho).symm⟩
  · rw [if_neg q] at ho
    obtain ⟨-, ho⟩ := zg_s ho
    by_cases d : mW i.toNatClampNeg = (-1)
    · rw [if_pos d] at ho
      exact Or.inr (Or.inr ⟨by grind, fun w => (of_decide_eq_true w) d, ho⟩)
    · rw [if_neg d] at ho
      exact Or.inr (Or.inl ⟨by grind, decide_eq_true d, ho⟩)
theorem zGroupsM {mN mG : Nat → Int32} {x : Int32} (hN : 0 ≤ mN 0 ∧ mN 0 ≤ 14) (h : fn_X12_groups mN mG = some x) : x = zRk mG (mN 0).toNatClampNeg := by
  unfold fn_X12_groups at h
  rw [zn01.1] at h
  refine zcnt_loop (b := fun k => decide (mG k = Int32.ofNat k)) hN (fun c i back o hi ho => ?_) h
  try dsimp only at ho
  by_cases q : mN 0 ≤ i
  · rw [if_pos q] at ho
    exact Or.inl ⟨q, (Option.some.inj ho).symm⟩
  · rw [if_neg q] at ho
    obtain ⟨-, ho⟩ := zg_s ho
    by_cases d : mG i.toNatClampNeg = i
    · rw [if_pos d] at ho
      exact Or.inr (Or.inl ⟨by grind, by rw [zofn' i hi]; exact decide_eq_true d, ho⟩)
    · rw [if_neg d] at ho
      exact Or.inr (Or.inr ⟨by grind, by rw [zofn' i hi]; exact fun w => d (of_decide_eq_true w), ho⟩)
theorem zCountA {n p x : Int32} {al : Nat → Int32} (hp : 0 ≤ p ∧ p ≤ n ∧ n ≤ 14) (h : fn_X4_countAnswers p n al = some x) : x = zct (fun k => decide (¬ al k = (-1))) p.toNatClampNeg := by
  unfold fn_X4_countAnswers at h
  refine zcnt_loop ⟨hp.1, by grind⟩ (fun c i back o hi ho => ?_) h
  try dsimp only at ho
  by_cases q : p ≤ i
  · rw [if_pos q] at ho
    exact Or.inl ⟨q, (Option.some.inj ho).symm⟩
  · rw [if_neg q, if_neg (by grind)] at ho
    obtain ⟨-, ho⟩ := zg_s ho
    by_cases d : al i.toNatClampNeg = (-1)
    · rw [if_pos d] at ho
      exact Or.inr (Or.inr ⟨by grind, fun w => (of_decide_eq_true w) d, ho⟩)
    · rw [if_neg d] at ho
      exact Or.inr (Or.inl ⟨by grind, decide_eq_true d, ho⟩)
theorem zeq_has {cF cc cN inp gc gfr gcl mSd sd : Int32} {nF nN stp mst prc al made amt op fx jn lets gof gfx gld mF mN mCst mNF mNN mS mM mC mW mO m1 m2 mX mG mFr : Nat → Int32} {mA mB : Nat → Int64} {p1 x : Int32} {y : Int32 × Int32 × (Nat → Int32)} (T : zTN cF cc cN inp nF nN stp mst prc al made amt op fx jn lets mF mN mNF mNN mS mM mC mW mCst mO m1 m2 mX mG mA mB) (G : zGp cN gc gfr gcl gof gfx gld fx mG) (hs : sd = mSd) (h1 : fn_X11_has p1 sd cF cc cN inp al gc gfr = some x) (h2 : fn_X12_has p1 mSd mN mG mX mFr mF mO mW mCst = some y) : x = y.1 := by
  have T0 := T
  obtain ⟨hF, ⟨n1, n2, n3⟩, hC, hz, hp, hI, hf, hn, hg⟩ := T
  have hN0 : 0 ≤ mN 0 ∧ mN 0 ≤ 14 := by rw [n1]; exact ⟨n2, n3⟩
  unfold fn_X11_has at h1
  unfold fn_X12_has at h2
  obtain ⟨w, hw, h2⟩ := zb_s h2
  rw [zn01.1] at h2
  by_cases d0 : p1 = 0
  · rw [if_pos d0] at h1 h2
    rw [← Option.some.inj h1, ← Option.some.inj h2]; exact n1.symm
  · rw [if_neg d0] at h1 h2
    by_cases d1 : p1 = 1
    · rw [if_pos d1] at h1 h2
      rw [← Option.some.inj h1, ← Option.some.inj h2]; exact hF.1.symm
    · rw [if_neg d1] at h1 h2
      by_cases d2 : p1 = 2
      · rw [if_pos d2] at h1 h2
        obtain ⟨z, hz2, h2⟩ := zb_s h2
        have e := zInputs hN0 hz2
        rw [← Option.some.inj h1, ← Option.some.inj h2, hI, zCnt_c]
        show _ = z
        rw [e, n1]
        refine zct_c _ (fun j hj => ?_)
        obtain ⟨j1, j2, j3⟩ := zof n2 hj
        have := (hn _ j1 j2).2.1
        rw [j3] at this
        rw [this]
      · rw [if_neg d2] at h1 h2
        by_cases d3 : p1 = 3
        · rw [if_pos d3] at h1 h2
          obtain ⟨z, hz2, h2⟩ := zb_s h2
          obtain ⟨z', hz1, h1⟩ := zb_s h1
          have e := zAnswers hN0 hz2
          have e' := zCountA ⟨n2, by grind, n3⟩ hz1
          rw [← Option.some.inj h1, ← Option.some.inj h2]
          show z' = z
          rw [e, e', n1]
          refine zct_c _ (fun j hj => ?_)
          obtain ⟨j1, j2, j3⟩ := zof n2 hj
          have := (hn _ j1 j2).2.2.2.1
          rw [j3] at this
          rw [this]
        · rw [if_neg d3] at h1 h2
          by_cases d4 : p1 = 4
          · rw [if_pos d4] at h1 h2
            obtain ⟨z, hz2, h2⟩ := zb_s h2
            have e := zGroupsM hN0 hz2
            rw [← Option.some.inj h1, ← Option.some.inj h2]
            show gc = z
            rw [e, n1]; exact G.1.1
          · rw [if_neg d4] at h1 h2
            by_cases d5 : p1 = 5
            · rw [if_pos d5] at h1 h2
              have e := (zLaysFree T0 G hw).1
              rw [← Option.some.inj h1, ← Option.some.inj h2]
              show gfr = w.1
              rw [e, G.2, G.1.1]
              have l14 : cN.toNatClampNeg ≤ 14 := by have := zcle n2 n3; rw [show (14 : Int32).toNatClampNeg = 14 by decide +kernel] at this; exact this
              exact zFreeC gfx mG cN.toNatClampNeg l14
            · rw [if_neg d5] at h1 h2
              by_cases d6 : p1 = 6
              · rw [if_pos d6] at h1 h2
                by_cases e : mN 0 = 0
                · rw [if_pos e] at h2
                  rw [← Option.some.inj h1, ← Option.some.inj h2]; exact hz (n1.symm.trans e)
                · rw [if_neg e] at h2
                  rw [← Option.some.inj h1, ← Option.some.inj h2]; exact hC.1.symm
              · rw [if_neg d6] at h1 h2
                by_cases d7 : p1 = 7
                · rw [if_pos d7] at h1 h2
                  rw [← Option.some.inj h1, ← Option.some.inj h2]; exact hs
                · rw [if_neg d7] at h1 h2
                  rw [← Option.some.inj h1, ← Option.some.inj h2]
