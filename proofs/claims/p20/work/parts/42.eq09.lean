/-! a TASK as class and reference hold it (d: where the reference's rows begin) -/
noncomputable def zFm1 (d i : Int32) (nF stp mst prc mNF mS mM mC : Nat → Int32) : Prop := zNm (nF i.toNatClampNeg) (mNF (d + i).toNatClampNeg) ∧ stp i.toNatClampNeg = mS (d + i).toNatClampNeg ∧ mst i.toNatClampNeg = mM (d + i).toNatClampNeg ∧ prc i.toNatClampNeg = mC (d + i).toNatClampNeg ∧ (1 ≤ stp i.toNatClampNeg ∧ stp i.toNatClampNeg ≤ 1000000) ∧ (1 ≤ mst i.toNatClampNeg ∧ mst i.toNatClampNeg ≤ 1000000000) ∧ (0 ≤ prc i.toNatClampNeg ∧ prc i.toNatClampNeg ≤ 999)
noncomputable def zFm (d cF : Int32) (nF stp mst prc mNF mS mM mC : Nat → Int32) : Prop := ∀ i : Int32, 0 ≤ i → i < cF → zFm1 d i nF stp mst prc mNF mS mM mC
noncomputable def zNu1 (d i cF : Int32) (nN op fx al made amt lets mNN mO m1 m2 mX mW : Nat → Int32) (mA mB : Nat → Int64) : Prop :=
  zNm (nN i.toNatClampNeg) (mNN (d + i).toNatClampNeg) ∧ op i.toNatClampNeg = mO (d + i).toNatClampNeg ∧ fx i.toNatClampNeg = mX (d + i).toNatClampNeg ∧ al i.toNatClampNeg = mW (d + i).toNatClampNeg
  ∧ made (2 * i + 0).toNatClampNeg = m1 (d + i).toNatClampNeg ∧ made (2 * i + 1).toNatClampNeg = m2 (d + i).toNatClampNeg ∧ mA (d + i).toNatClampNeg = (amt (2 * i + 0).toNatClampNeg).toInt64 ∧ mB (d + i).toNatClampNeg = (amt (2 * i + 1).toNatClampNeg).toInt64
  ∧ (0 ≤ op i.toNatClampNeg ∧ op i.toNatClampNeg ≤ 5) ∧ ((-1) ≤ fx i.toNatClampNeg ∧ fx i.toNatClampNeg < cF) ∧ ((-1) ≤ al i.toNatClampNeg ∧ al i.toNatClampNeg ≤ 1000000)
  ∧ ((-1) ≤ made (2 * i + 0).toNatClampNeg ∧ made (2 * i + 0).toNatClampNeg < i) ∧ ((-1) ≤ made (2 * i + 1).toNatClampNeg ∧ made (2 * i + 1).toNatClampNeg < i)
  ∧ ((-10000000) ≤ amt (2 * i + 0).toNatClampNeg ∧ amt (2 * i + 0).toNatClampNeg ≤ 10000000) ∧ ((-10000000) ≤ amt (2 * i + 1).toNatClampNeg ∧ amt (2 * i + 1).toNatClampNeg ≤ 10000000)
  ∧ (op i.toNatClampNeg = 0 → made (2 * i + 0).toNatClampNeg = (-1) ∧ made (2 * i + 1).toNatClampNeg = (-1) ∧ amt (2 * i + 0).toNatClampNeg ≤ amt (2 * i + 1).toNatClampNeg)
  ∧ lets i.toNatClampNeg = zDeep (op i.toNatClampNeg) i made lets
noncomputable def zNu (d cN cF : Int32) (nN op fx al made amt lets mNN mO m1 m2 mX mW : Nat → Int32) (mA mB : Nat → Int64) : Prop := ∀ i : Int32, 0 ≤ i → i < cN → zNu1 d i cF nN op fx al made amt lets mNN mO m1 m2 mX mW mA mB
/-- groups: the same classes; the reference names each by its least NUMBER -/
noncomputable def zGr (d cN : Int32) (jn mG : Nat → Int32) : Prop := (∀ i : Int32, 0 ≤ i → i < cN → 0 ≤ mG (d + i).toNatClampNeg ∧ mG (d + i).toNatClampNeg ≤ i ∧ mG (d + mG (d + i).toNatClampNeg).toNatClampNeg = mG (d + i).toNatClampNeg) ∧ (∀ i j : Int32, 0 ≤ i → i < cN → 0 ≤ j → j < cN → (jn i.toNatClampNeg = jn j.toNatClampNeg ↔ mG (d + i).toNatClampNeg = mG (d + j).toNatClampNeg)) ∧ (∀ i : Int32, 0 ≤ i → i < cN → 0 ≤ jn i.toNatClampNeg ∧ jn i.toNatClampNeg < cN)
theorem zNR_F {d cF : Int32} {nF stp mst prc mNF mS mM mC : Nat → Int32} (h : zFm d cF nF stp mst prc mNF mS mM mC) : zNR d cF nF mNF := fun i h1 h2 => (h i h1 h2).1
theorem zNR_N {d cN cF : Int32} {nN op fx al made amt lets mNN mO m1 m2 mX mW : Nat → Int32} {mA mB : Nat → Int64} (h : zNu d cN cF nN op fx al made amt lets mNN mO m1 m2 mX mW mA mB) : zNR d cN nN mNN := fun i h1 h2 => (h i h1 h2).1
theorem zup {f : Nat → Int32} {a b x : Int32} (ha : 0 ≤ a) (hb : 0 ≤ b) : upd f a.toNatClampNeg x b.toNatClampNeg = if b = a then x else f b.toNatClampNeg := by
  rw [zu_at]
  by_cases c : b = a
  · rw [if_pos c, if_pos (by rw [c])]
  · rw [if_neg c, if_neg (fun q => c (zinj b a hb ha q))]
theorem zupL {f : Nat → Int64} {a b : Int32} {x : Int64} (ha : 0 ≤ a) (hb : 0 ≤ b) : vp_updL f a.toNatClampNeg x b.toNatClampNeg = if b = a then x else f b.toNatClampNeg := by
  rw [zu_atL]
  by_cases c : b = a
  · rw [if_pos c, if_pos (by rw [c])]
  · rw [if_neg c, if_neg (fun q => c (zinj b a hb ha q))]
/-- one FORMAT more -/
theorem zFm_add {d cF c m x1 x2 x3 : Int32} {nF stp mst prc mNF mS mM mC : Nat → Int32} (hd : 0 ≤ d ∧ d ≤ 14) (hc : 0 ≤ cF ∧ cF < 4) (h : zFm d cF nF stp mst prc mNF mS mM mC) (hnm : zNm c m) (h1 : 1 ≤ x1 ∧ x1 ≤ 1000000) (h2 : 1 ≤ x2 ∧ x2 ≤ 1000000000) (h3 : 0 ≤ x3 ∧ x3 ≤ 999) :
    zFm d (cF + 1) (upd nF cF.toNatClampNeg c) (upd stp cF.toNatClampNeg x1) (upd mst cF.toNatClampNeg x2) (upd prc cF.toNatClampNeg x3) (upd mNF (d + cF).toNatClampNeg m) (upd mS (d + cF).toNatClampNeg x1) (upd mM (d + cF).toNatClampNeg x2) (upd mC (d + cF).toNatClampNeg x3) := by
  intro i i1 i2
  unfold zFm1
  simp only [zup hc.1 i1, zup (a := d + cF) (b := d + i) (by grind) (by grind)]
  by_cases q : i = cF
  · have q2 : d + i = d + cF := by rw [q]
    simp only [if_pos q, if_pos q2]
    exact ⟨hnm, trivial, trivial, trivial, h1, h2, h3⟩
  · have q2 : ¬ d + i = d + cF := by grind
    simp only [if_neg q, if_neg q2]
    exact h i i1 (by grind)
theorem zNu_F {d cN cF : Int32} {nN op fx al made amt lets mNN mO m1 m2 mX mW : Nat → Int32} {mA mB : Nat → Int64} (h : zNu d cN cF nN op fx al made amt lets mNN mO m1 m2 mX mW mA mB) (hc : cF ≤ 4) : zNu d cN (cF + 1) nN op fx al made amt lets mNN mO m1 m2 mX mW mA mB := by
  intro i i1 i2
  obtain ⟨a1, a2, a3, a4, a5, a6, a7, a8, a9, ⟨b1, b2⟩, rest⟩ := h i i1 i2
  exact ⟨a1, a2, a3, a4, a5, a6, a7, a8, a9, ⟨b1, by grind⟩, rest⟩
theorem zNu_fix {d cN cF p x : Int32} {nN op fx al made amt lets mNN mO m1 m2 mX mW : Nat → Int32} {mA mB : Nat → Int64} (hd : 0 ≤ d ∧ d ≤ 14) (hc : cN ≤ 14) (hp : 0 ≤ p ∧ p < cN) (hx : 0 ≤ x ∧ x < cF) (h : zNu d cN cF nN op fx al made amt lets mNN mO m1 m2 mX mW mA mB) : zNu d cN cF nN op (upd fx p.toNatClampNeg x) al made amt lets mNN mO m1 m2 (upd mX (d + p).toNatClampNeg x) mW mA mB := by
  intro i i1 i2
  obtain ⟨a1, a2, a3, a4, a5, a6, a7, a8, a9, ⟨b1, b2⟩, rest⟩ := h i i1 i2
  refine ⟨a1, a2, ?_, a4, a5, a6, a7, a8, a9, ?_, rest⟩
  · rw [zup hp.1 i1, zup (by grind) (by grind)]
    by_cases q : i = p
    · rw [if_pos q, if_pos (by rw [q])]
    · rw [if_neg q, if_neg (by grind)]; exact a3
  · rw [zup hp.1 i1]
    by_cases q : i = p
    · rw [if_pos q]; grind
    · rw [if_neg q]; exact ⟨b1, b2⟩
theorem zNu_allow {d cN cF p x : Int32} {nN op fx al made amt lets mNN mO m1 m2 mX mW : Nat → Int32} {mA mB : Nat → Int64} (hd : 0 ≤ d ∧ d ≤ 14) (hc : cN ≤ 14) (hp : 0 ≤ p ∧ p < cN) (hx : 0 ≤ x ∧ x ≤ 1000000) (h : zNu d cN cF nN op fx al made amt lets mNN mO m1 m2 mX mW mA mB) : zNu d cN cF nN op fx (upd al p.toNatClampNeg x) made amt lets mNN mO m1 m2 mX (upd mW (d + p).toNatClampNeg x) mA mB := by
  intro i i1 i2
  obtain ⟨a1, a2, a3, a4, a5, a6, a7, a8, a9, b, ⟨c1, c2⟩, rest⟩ := h i i1 i2
  refine ⟨a1, a2, a3, ?_, a5, a6, a7, a8, a9, b, ?_, rest⟩
  · rw [zup hp.1 i1, zup (by grind) (by grind)]
    by_cases q : i = p
    · rw [if_pos q, if_pos (by rw [q])]
    · rw [if_neg q, if_neg (by grind)]; exact a4
  · rw [zup hp.1 i1]
    by_cases q : i = p
    · rw [if_pos q]; grind
    · rw [if_neg q]; exact ⟨c1, c2⟩
/-- lets of NUMBERS ahead don't look at the one that is new -/
theorem zDeep_up {w i cN p1 p2 y : Int32} {made lets : Nat → Int32} (hi : 0 ≤ i ∧ i < cN) (hc : cN < 14) : zDeep w i (upd (upd made (2 * cN + 0).toNatClampNeg p1) (2 * cN + 1).toNatClampNeg p2) (upd lets cN.toNatClampNeg y) = zDeep w i made lets := by
  have e : ∀ s : Int32, (s = 0 ∨ s = 1) → zLets i (upd (upd made (2 * cN + 0).toNatClampNeg p1) (2 * cN + 1).toNatClampNeg p2) (upd lets cN.toNatClampNeg y) s = zLets i made lets s := by
    intro s hs
    have eM : upd (upd made (2 * cN + 0).toNatClampNeg p1) (2 * cN + 1).toNatClampNeg p2 (2 * i + s).toNatClampNeg = made (2 * i + s).toNatClampNeg := by
      rw [zup (a := 2 * cN + 1) (b := 2 * i + s) (by grind) (by grind), if_neg (by grind), zup (a := 2 * cN + 0) (b := 2 * i + s) (by grind) (by grind), if_neg (by grind)]
    unfold zLets
    rw [eM]
    by_cases q : made (2 * i + s).toNatClampNeg < 0 ∨ i ≤ made (2 * i + s).toNatClampNeg
    · rw [if_pos q, if_pos q]
    · rw [if_neg q, if_neg q, zup (by grind) (by grind), if_neg (by grind)]
  unfold zDeep
  rw [e 0 (Or.inl rfl), e 1 (Or.inr rfl)]
theorem zDeep_c {w i : Int32} {M a b : Nat → Int32} (h : ∀ s : Int32, zLets i M a s = zLets i M b s) : zDeep w i M a = zDeep w i M b := by
  unfold zDeep
  rw [h 0, h 1]
/-- one NUMBER more -/
theorem zNu_add {d cN cF c m w p1 p2 x1 x2 : Int32} {nN op fx al made amt lets mNN mO m1 m2 mX mW M1 M2 : Nat → Int32} {mA mB : Nat → Int64} (hd : 0 ≤ d ∧ d ≤ 14) (hc : 0 ≤ cN ∧ cN < 14) (hF : 0 ≤ cF) (h : zNu d cN cF nN op fx al made amt lets mNN mO m1 m2 mX mW mA mB) (hnm : zNm c m) (hw : 0 ≤ w ∧ w ≤ 5) (hp1 : (-1) ≤ p1 ∧ p1 < cN) (hp2 : (-1) ≤ p2 ∧ p2 < cN) (hx1 : (-10000000) ≤ x1 ∧ x1 ≤ 10000000) (hx2 : (-10000000) ≤ x2 ∧ x2 ≤ 10000000) (hin : w = 0 → p1 = (-1) ∧ p2 = (-1) ∧ x1 ≤ x2)
    (hM1 : ∀ b : Int32, 0 ≤ b → M1 b.toNatClampNeg = if b = d + cN then p1 else m1 b.toNatClampNeg) (hM2 : ∀ b : Int32, 0 ≤ b → M2 b.toNatClampNeg = if b = d + cN then p2 else m2 b.toNatClampNeg) :
    zNu d (cN + 1) cF (upd nN cN.toNatClampNeg c) (upd op cN.toNatClampNeg w) (upd fx cN.toNatClampNeg (-1)) (upd al cN.toNatClampNeg (-1)) (upd (upd made (2 * cN + 0).toNatClampNeg p1) (2 * cN + 1).toNatClampNeg p2) (upd (upd amt (2 * cN + 0).toNatClampNeg x1) (2 * cN + 1).toNatClampNeg x2) (upd lets cN.toNatClampNeg (zDeep w cN (upd (upd made (2 * cN + 0).toNatClampNeg p1) (2 * cN + 1).toNatClampNeg p2) lets)) (upd mNN (d + cN).toNatClampNeg m) (upd mO (d + cN).toNatClampNeg w) M1 M2 (upd mX (d + cN).toNatClampNeg (-1)) (upd mW (d + cN).toNatClampNeg (-1)) (vp_updL mA (d + cN).toNatClampNeg x1.toInt64) (vp_updL mB (d + cN).toNatClampNeg x2.toInt64) := by
  intro i i1 i2
  unfold zNu1
  have e0 := zup (f := upd made (2 * cN + 0).toNatClampNeg p1) (a := 2 * cN + 1) (b := 2 * i + 0) (x := p2) (by grind) (by grind)
  have e1 := zup (f := made) (a := 2 * cN + 0) (b := 2 * i + 0) (x := p1) (by grind) (by grind)
  have e2 := zup (f := upd made (2 * cN + 0).toNatClampNeg p1) (a := 2 * cN + 1) (b := 2 * i + 1) (x := p2) (by grind) (by grind)
  have e3 := zup (f := made) (a := 2 * cN + 0) (b := 2 * i + 1) (x := p1) (by grind) (by grind)
  have g0 := zup (f := upd amt (2 * cN + 0).toNatClampNeg x1) (a := 2 * cN + 1) (b := 2 * i + 0) (x := x2) (by grind) (by grind)
  have g1 := zup (f := amt) (a := 2 * cN + 0) (b := 2 * i + 0) (x := x1) (by grind) (by grind)
  have g2 := zup (f := upd amt (2 * cN + 0).toNatClampNeg x1) (a := 2 * cN + 1) (b := 2 * i + 1) (x := x2) (by grind) (by grind)
  have g3 := zup (f := amt) (a := 2 * cN + 0) (b := 2 * i + 1) (x := x1) (by grind) (by grind)
  by_cases q : i = cN
  · subst q
    rw [if_neg (by grind)] at e0 g0
    rw [if_pos rfl] at e1 g1 e2 g2
    have hl : ∀ s : Int32, zLets i (upd (upd made (2 * i + 0).toNatClampNeg p1) (2 * i + 1).toNatClampNeg p2) (upd lets i.toNatClampNeg (zDeep w i (upd (upd made (2 * i + 0).toNatClampNeg p1) (2 * i + 1).toNatClampNeg p2) lets)) s = zLets i (upd (upd made (2 * i + 0).toNatClampNeg p1) (2 * i + 1).toNatClampNeg p2) lets s := by
      intro s
      unfold zLets
      generalize upd (upd made (2 * i + 0).toNatClampNeg p1) (2 * i + 1).toNatClampNeg p2 (2 * i + s).toNatClampNeg = z
      by_cases w1 : z < 0 ∨ i ≤ z
      · rw [if_pos w1, if_pos w1]
      · rw [if_neg w1, if_neg w1, zup i1 (by grind), if_neg (by grind)]
    simp only [zup i1 i1, if_true, zup (a := d + i) (b := d + i) (by grind) (by grind), zupL (a := d + i) (b := d + i) (by grind) (by grind), e0, e1, e2, g0, g1, g2, hM1 (d + i) (by grind), hM2 (d + i) (by grind)]
    refine ⟨hnm, trivial, trivial, trivial, trivial, trivial, trivial, trivial, hw, by grind, by decide, hp1, hp2, hx1, hx2, hin, ?_⟩
    exact (zDeep_c hl).symm
  · have hlt : i < cN := by grind
    rw [if_neg (by grind)] at e0 g0 e1 g1 e2 g2 e3 g3
    have hd1 : ¬ d + i = d + cN := by grind
    simp only [zup hc.1 i1, if_neg q, zup (a := d + cN) (b := d + i) (by grind) (by grind), zupL (a := d + cN) (b := d + i) (by grind) (by grind), if_neg hd1, e0, e1, e2, e3, g0, g1, g2, g3, hM1 (d + i) (by grind), hM2 (d + i) (by grind), zDeep_up ⟨i1, hlt⟩ hc.2]
    exact h i i1 hlt
theorem zGr_add {d cN : Int32} {jn mG : Nat → Int32} (hd : 0 ≤ d ∧ d ≤ 14) (hc : 0 ≤ cN ∧ cN < 14) (h : zGr d cN jn mG) : zGr d (cN + 1) (upd jn cN.toNatClampNeg cN) (upd mG (d + cN).toNatClampNeg cN) := by
  obtain ⟨h1, h2, h3⟩ := h
  refine ⟨fun i i1 i2 => ?_, fun i j i1 i2 j1 j2 => ?_, fun i i1 i2 => ?_⟩
  · rw [zup (a := d + cN) (b := d + i) (by grind) (by grind)]
    by_cases q : i = cN
    · subst q
      rw [if_pos rfl, zup (by grind) (by grind), if_pos rfl]
      exact ⟨i1, by grind, rfl⟩
    · rw [if_neg (by grind)]
      obtain ⟨w1, w2, w3⟩ := h1 i i1 (by grind)
      rw [zup (by grind) (by grind), if_neg (by grind)]
      exact ⟨w1, w2, w3⟩
  · rw [zup hc.1 i1, zup hc.1 j1, zup (a := d + cN) (b := d + i) (by grind) (by grind), zup (a := d + cN) (b := d + j) (by grind) (by grind)]
    by_cases qi : i = cN
    · by_cases qj : j = cN
      · rw [if_pos qi, if_pos qj, if_pos (by grind), if_pos (by grind)]
      · rw [if_pos qi, if_neg qj, if_pos (by grind), if_neg (by grind)]
        have w1 := h3 j j1 (by grind)
        have w2 := h1 j j1 (by grind)
        constructor
        · intro w; grind
        · intro w; grind
    · by_cases qj : j = cN
      · rw [if_neg qi, if_pos qj, if_neg (by grind), if_pos (by grind)]
        have w1 := h3 i i1 (by grind)
        have w2 := h1 i i1 (by grind)
        constructor
        · intro w; grind
        · intro w; grind
      · rw [if_neg qi, if_neg qj, if_neg (by grind), if_neg (by grind)]
        exact h2 i j i1 (by grind) j1 (by grind)
  · rw [zup hc.1 i1]
    by_cases q : i = cN
    · rw [if_pos q]; grind
    · rw [if_neg q]
      have := h3 i i1 (by grind)
      grind
theorem zGr_merge {cN p p' : Int32} {jn mG J G : Nat → Int32} (hc : cN ≤ 14) (hp : 0 ≤ p ∧ p < cN) (hp' : 0 ≤ p' ∧ p' < cN) (h : zGr 14 cN jn mG) (hJ : ∀ x : Int32, 0 ≤ x → x < cN → J x.toNatClampNeg = if jn x.toNatClampNeg = jn p'.toNatClampNeg then jn p.toNatClampNeg else jn x.toNatClampNeg) (hG : zMg cN p p' mG G) : zGr 14 cN J G := by
  obtain ⟨h1, h2, h3⟩ := h
  obtain ⟨hG, _⟩ := hG
  have a1 := h1 p hp.1 hp.2
  have a2 := h1 p' hp'.1 hp'.2
  refine ⟨fun i i1 i2 => ?_, fun i j i1 i2 j1 j2 => ?_, fun i i1 i2 => ?_⟩
  · have a3 := h1 i i1 i2
    rw [hG i i1 i2]
    by_cases q : mG (14 + i).toNatClampNeg = mG (14 + p).toNatClampNeg ∨ mG (14 + i).toNatClampNeg = mG (14 + p').toNatClampNeg
    · rw [if_pos q]
      have hm : zMn (mG (14 + p).toNatClampNeg) (mG (14 + p').toNatClampNeg) = mG (14 + p).toNatClampNeg ∨ zMn (mG (14 + p).toNatClampNeg) (mG (14 + p').toNatClampNeg) = mG (14 + p').toNatClampNeg := by
        unfold zMn
        split
        · exact Or.inl rfl
        · exact Or.inr rfl
      have hle : zMn (mG (14 + p).toNatClampNeg) (mG (14 + p').toNatClampNeg) ≤ mG (14 + p).toNatClampNeg ∧ zMn (mG (14 + p).toNatClampNeg) (mG (14 + p').toNatClampNeg) ≤ mG (14 + p').toNatClampNeg := by
        unfold zMn
        split
        · grind
        · grind
      have h0 : 0 ≤ zMn (mG (14 + p).toNatClampNeg) (mG (14 + p').toNatClampNeg) := by
        rcases hm with w | w
        · rw [w]; exact a1.1
        · rw [w]; exact a2.1
      refine ⟨h0, by grind, ?_⟩
      rw [hG _ h0 (by grind)]
      rcases hm with w | w
      · rw [if_pos (by rw [w]; exact Or.inl a1.2.2)]
      · rw [if_pos (by rw [w]; exact Or.inr a2.2.2)]
    · rw [if_neg q]
      refine ⟨a3.1, a3.2.1, ?_⟩
      rw [hG _ a3.1 (by grind), a3.2.2, if_neg q]
  · rw [hJ i i1 i2, hJ j j1 j2, hG i i1 i2, hG j j1 j2]
    have b1 := h2 i p i1 i2 hp.1 hp.2
    have b2 := h2 i p' i1 i2 hp'.1 hp'.2
    have b3 := h2 j p j1 j2 hp.1 hp.2
    have b4 := h2 j p' j1 j2 hp'.1 hp'.2
    have b5 := h2 i j i1 i2 j1 j2
    have b6 := h2 p p' hp.1 hp.2 hp'.1 hp'.2
    have hm : zMn (mG (14 + p).toNatClampNeg) (mG (14 + p').toNatClampNeg) = mG (14 + p).toNatClampNeg ∨ zMn (mG (14 + p).toNatClampNeg) (mG (14 + p').toNatClampNeg) = mG (14 + p').toNatClampNeg := by
      unfold zMn
      split
      · exact Or.inl rfl
      · exact Or.inr rfl
    generalize zMn (mG (14 + p).toNatClampNeg) (mG (14 + p').toNatClampNeg) = z at hm ⊢
    generalize mG (14 + i).toNatClampNeg = gi at *
    generalize mG (14 + j).toNatClampNeg = gj at *
    generalize mG (14 + p).toNatClampNeg = gp at *
    generalize mG (14 + p').toNatClampNeg = gq at *
    generalize jn i.toNatClampNeg = ji at *
    generalize jn j.toNatClampNeg = jj at *
    generalize jn p.toNatClampNeg = jp at *
    generalize jn p'.toNatClampNeg = jq at *
    clear h1 h2 h3 hJ hG
    grind
  · rw [hJ i i1 i2]
    split
    · exact h3 p hp.1 hp.2
    · exact h3 i i1 i2
