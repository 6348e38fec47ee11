/-! groups -/
noncomputable def zMn (x y : Int32) : Int32 := if x < y then x else y
theorem zLesser (x y : Int32) : ∃ z : Int64, fn_X12_lesser x.toInt64 y.toInt64 = some z ∧ z.toInt32 = zMn x y := by
  unfold fn_X12_lesser zMn
  by_cases c : x < y
  · refine ⟨x.toInt64, ?_, by rw [if_pos c, z64_32]⟩
    rw [if_neg (fun q => by have := (z64_le _ _).mp ((lg_cmp_ge _ _).mp q); grind)]
  · refine ⟨y.toInt64, ?_, by rw [if_neg c, z64_32]⟩
    rw [if_pos ((lg_cmp_ge _ _).mpr ((z64_le _ _).mpr (by first | lia | grind)))]
/-- groups merged, as the reference does it -/
noncomputable def zMg (cN i j : Int32) (mG G : Nat → Int32) : Prop := (∀ x : Int32, 0 ≤ x → x < cN → G (14 + x).toNatClampNeg = if mG (14 + x).toNatClampNeg = mG (14 + i).toNatClampNeg ∨ mG (14 + x).toNatClampNeg = mG (14 + j).toNatClampNeg then zMn (mG (14 + i).toNatClampNeg) (mG (14 + j).toNatClampNeg) else mG (14 + x).toNatClampNeg) ∧ (∀ y : Nat, y < 14 → G y = mG y)
noncomputable def zGI (cN p p' : Int32) (mG : Nat → Int32) (c : Int32) (G : Nat → Int32) : Prop := 0 ≤ c ∧ c ≤ cN ∧ (∀ x : Int32, 0 ≤ x → x < c → G (14 + x).toNatClampNeg = if mG (14 + x).toNatClampNeg = mG (14 + p).toNatClampNeg ∨ mG (14 + x).toNatClampNeg = mG (14 + p').toNatClampNeg then zMn (mG (14 + p).toNatClampNeg) (mG (14 + p').toNatClampNeg) else mG (14 + x).toNatClampNeg) ∧ (∀ x : Int32, c ≤ x → x < cN → G (14 + x).toNatClampNeg = mG (14 + x).toNatClampNeg) ∧ (∀ y : Nat, y < 14 → G y = mG y)
theorem zlt_of {a b : Int32} (h : ¬ b ≤ a) : a < b := by lia
theorem z14in {c cN : Int32} (h0 : 0 ≤ c) (h1 : c < cN) (h2 : cN ≤ 14) : 0 ≤ 14 + c ∧ 14 + c < 28 := ⟨by lia, by lia⟩
theorem zmeas {c cN : Int32} (h0 : 0 ≤ c) (h1 : c < cN) (h2 : cN ≤ 14) : 0 ≤ cN - (c + 1) ∧ cN - (c + 1) < cN - c := ⟨by lia, by lia⟩
set_option maxHeartbeats 2000000 in
theorem zGroupS {n a e k s v o got fk fp bg wa cN : Int32} {f g own tab nN jn : Nat → Int32} {mN mNN mG : Nat → Int32} (hn : n ≤ 1200) (ha : 0 ≤ a ∧ a ≤ n) (ht : zTp f g) (ho : ∀ w : Nat, w < 13 → own w = zOwT w) (hT : (∀ k : Nat, k < 71 → tab k = zTab k)) (T : zTok n f g a e k s v o) (hN : mN 1 = cN ∧ 0 ≤ cN ∧ cN ≤ 14) (hnn : zNR 14 cN nN mNN) :
    zw (fn_X5_readGroup got fk fp n e k s v o cN nN f own jn) (fun r => zw (fn_X12_readsGroup n a bg 0 wa 1 g tab mN mNN mG) (fun q =>
      (∃ g' e' k' s' v' o' J z b' G i j, r = (1, g', fk, fp, e', k', s', v', o', J) ∧ q = (z, b', 0, wa, G) ∧ (0 ≤ i ∧ i < cN) ∧ (0 ≤ j ∧ j < cN) ∧ ¬ i = j ∧ (∀ x : Int32, 0 ≤ x → x < cN → J x.toNatClampNeg = if jn x.toNatClampNeg = jn j.toNatClampNeg then jn i.toNatClampNeg else jn x.toNatClampNeg) ∧ zMg cN i j mG G ∧ zNext n f g z (e', k', s', v', o'))
      ∨ zStop r.1 r.2.2.1 r.2.2.2.1 q.2.2.1 q.2.2.2.1 ∧ q.2.2.2.2 = mG)) := by
  unfold fn_X5_readGroup fn_X12_readsGroup
  obtain ⟨p, hp, r1, hr1, q1, hq1, h1⟩ := zTold (got := got) (fk := fk) (fp := fp) (bg := bg) (wa := wa) hn ha ht ho hT T hN hnn
  simp only [hp, zb_some, hr1, hq1]
  rcases h1 with ⟨_, y1, rfl, p1, p2, rfl, ha1, T1⟩ | hst
  · dsimp only
    rw [if_neg (by decide)]
    obtain ⟨p', hp', r2, hr2, q2, hq2, h2⟩ := zTold (got := p) (fk := fk) (fp := fp) (bg := s) (wa := wa) hn ha1 ht ho hT T1 hN hnn
    simp only [hp', zb_some, hr2, hq2]
    rcases h2 with ⟨_, y2, rfl, p3, p4, rfl, ha2, T2⟩ | hst
    · dsimp only
      rw [if_neg (by decide)]
      by_cases d : p' = p
      · simp only [fn_X5_stopAt, if_pos d, if_pos d.symm, zGw_0, zb_some, zFl_0, zj, zGw_n (show ¬ (3 : Int32) = 0 by decide), if_true]
        rw [if_neg (by decide)]
        exact zw_some (zw_some (Or.inr ⟨⟨rfl, show ¬ (3 : Int32) = 0 by decide, rfl, rfl⟩, rfl⟩))
      · have d' : ¬ p = p' := fun q => d q.symm
        obtain ⟨J, hJ, hJ2⟩ := zJoin (jn := jn) ⟨p1, p2⟩ ⟨p3, p4⟩ hN.2.2
        simp only [if_neg d, if_neg d', hJ, zb_some, zGw_0, zj, fn_X12_n, if_neg (show ¬ (1 : Int32) = 0 by decide)]
        obtain ⟨l, hl, hl2⟩ := zLesser (mG (14 + p).toNatClampNeg) (mG (14 + p').toNatClampNeg)
        rw [show (14 * 1 : Int32) = 14 by decide +kernel, show (1 : Int32).toNatClampNeg = 1 by decide +kernel, zg28 p1 p2 hN.2.2, zg28 p3 p4 hN.2.2, hl, zb_some, hl2, hN.1]
        refine zw_some ?_
        refine zw_zl32 (fun t => zGI cN p p' mG t.1 t.2) (fun t => cN - t.1) ⟨by show (0 : Int32) ≤ 0; decide, hN.2.1, fun x h1 h2 => absurd h2 (by show ¬ x < 0; clear hJ2; grind), fun x _ _ => rfl, fun y _ => rfl⟩ (by (try dsimp only); grind) (fun t back H h => ?_)
        obtain ⟨c, G⟩ := t
        dsimp only at H h ⊢
        obtain ⟨H1, H2, H3, H4, H5⟩ := H
        refine zw_zg32 2 (by decide) (by decide) ?_
        refine zw_if (fun c1 => ?_) (fun c1 => ?_)
        · exact zw_some (Or.inl ⟨_, _, _, _, _, _, J, _, _, G, p, p', rfl, rfl, ⟨p1, p2⟩, ⟨p3, p4⟩, d', hJ2, ⟨fun x x1 x2 => H3 x x1 (by first | lia | grind), H5⟩, ha2, T2⟩)
        have hccN : c < cN := zlt_of c1
        have hz14 := z14in H1 hccN hN.2.2
        have hms := zmeas H1 hccN hN.2.2
        have hcv := H4 c (Int32.le_refl _) hccN
        have h14 : ∀ x : Int32, 0 ≤ x → x < cN → ((14 + x).toNatClampNeg = (14 + c).toNatClampNeg ↔ x = c) := by
          intro x x1 x2
          constructor
          · intro w
            have := zinj (14 + x) (14 + c) (by first | lia | grind) (by first | lia | grind) w
            grind
          · intro w; rw [w]
        have hup : (mG (14 + c).toNatClampNeg = mG (14 + p).toNatClampNeg ∨ mG (14 + c).toNatClampNeg = mG (14 + p').toNatClampNeg) → zGI cN p p' mG (c + 1) (upd G (14 + c).toNatClampNeg (zMn (mG (14 + p).toNatClampNeg) (mG (14 + p').toNatClampNeg))) := by
          intro hq
          refine ⟨by first | lia | grind, by first | lia | grind, fun x x1 x2 => ?_, fun x x1 x2 => ?_, fun y hy => ?_⟩
          · rw [zu_at]
            by_cases w : x = c
            · rw [if_pos ((h14 x x1 (by first | lia | grind)).mpr w), w, if_pos hq]
            · rw [if_neg (fun w2 => w ((h14 x x1 (by first | lia | grind)).mp w2))]
              exact H3 x x1 (by first | lia | grind)
          · rw [zu_at, if_neg (fun w2 => by have := (h14 x (by first | lia | grind) x2).mp w2; grind)]
            exact H4 x (by first | lia | grind) x2
          · rw [zu_at, if_neg ?_]
            · exact H5 y hy
            · intro w2
              have e14 := zAdd2 (x := 14) (y := c) (n := 28) (by decide +kernel) (zi_b (c := 14) (n := 14) (by decide +kernel) H1 (by first | lia | grind)).1 (by
                have := (zi_b (x := c) (c := 14) (n := 14) (by decide +kernel) H1 (by first | lia | grind)).2
                rw [show (14 : Int32).toInt = 14 by decide +kernel]
                omega) (by decide)
              rw [e14.2, show (14 : Int32).toNatClampNeg = 14 by decide +kernel] at w2
              omega
        have hkeep : ¬ (mG (14 + c).toNatClampNeg = mG (14 + p).toNatClampNeg ∨ mG (14 + c).toNatClampNeg = mG (14 + p').toNatClampNeg) → zGI cN p p' mG (c + 1) G := by
          intro hq
          refine ⟨by first | lia | grind, by first | lia | grind, fun x x1 x2 => ?_, fun x x1 x2 => ?_, H5⟩
          · by_cases w : x = c
            · rw [w, if_neg hq]; exact hcv
            · exact H3 x x1 (by first | lia | grind)
          · exact H4 x (by first | lia | grind) x2
        refine zw_zg32 28 (by decide) hz14 ?_
        refine zw_if (fun w => ?_) (fun w => ?_)
        · refine zw_zg32 28 (by decide) hz14 ?_
          exact h _ (hup (Or.inl (hcv.symm.trans w))) hms.1 hms.2
        · refine zw_zg32 28 (by decide) hz14 ?_
          refine zw_if (fun w2 => ?_) (fun w2 => h _ (hkeep (fun q => q.elim (fun z => w (hcv.trans z)) (fun z => w2 (hcv.trans z)))) hms.1 hms.2)
          refine zw_zg32 28 (by decide) hz14 ?_
          exact h _ (hup (Or.inr (hcv.symm.trans w2))) hms.1 hms.2
    · obtain ⟨s1, s2, s3, s4⟩ := hst
      obtain ⟨x1, x2, x3, x4, x5⟩ := q2
      dsimp only at s2 s3 s4 ⊢
      rw [if_pos s1]
      simp only [zGw_n s2, zb_some, if_true, zj]
      exact zw_some (zw_some (Or.inr ⟨⟨rfl, s2, s3, s4⟩, rfl⟩))
  · obtain ⟨s1, s2, s3, s4⟩ := hst
    obtain ⟨x1, x2, x3, x4, x5⟩ := q1
    dsimp only at s2 s3 s4 ⊢
    rw [if_pos s1]
    simp only [zTold_n s2, zGw_n s2, zb_some, if_true, zj]
    exact zw_some (zw_some (Or.inr ⟨⟨rfl, s2, s3, s4⟩, rfl⟩))
/-! a TASK as class and reference hold it (d: where the reference's rows begin) -/
noncomputable def zFm1 (d i : Int32) (nF stp mst prc mNF mS mM mC : Nat → Int32) : Prop := zNm (nF i.toNatClampNeg) (mNF (d + i).toNatClampNeg) ∧ stp i.toNatClampNeg = mS (d + i).toNatClampNeg ∧ mst i.toNatClampNeg = mM (d + i).toNatClampNeg ∧ prc i.toNatClampNeg = mC (d + i).toNatClampNeg ∧ (1 ≤ stp i.toNatClampNeg ∧ stp i.toNatClampNeg ≤ 1000000) ∧ (1 ≤ mst i.toNatClampNeg ∧ mst i.toNatClampNeg ≤ 1000000000) ∧ (0 ≤ prc i.toNatClampNeg ∧ prc i.toNatClampNeg ≤ 999)
noncomputable def zFm (d cF : Int32) (nF stp mst prc mNF mS mM mC : Nat → Int32) : Prop := ∀ i : Int32, 0 ≤ i → i < cF → zFm1 d i nF stp mst prc mNF mS mM mC
noncomputable def zNu1 (d i cF : Int32) (nN op fx al made amt lets mNN mO m1 m2 mX mW : Nat → Int32) (mA mB : Nat → Int64) : Prop :=
  zNm (nN i.toNatClampNeg) (mNN (d + i).toNatClampNeg) ∧ op i.toNatClampNeg = mO (d + i).toNatClampNeg ∧ fx i.toNatClampNeg = mX (d + i).toNatClampNeg ∧ al i.toNatClampNeg = mW (d + i).toNatClampNeg
  ∧ made (2 * i + 0).toNatClampNeg = m1 (d + i).toNatClampNeg ∧ made (2 * i + 1).toNatClampNeg = m2 (d + i).toNatClampNeg ∧ mA (d + i).toNatClampNeg = (amt (2 * i + 0).toNatClampNeg).toInt64 ∧ mB (d + i).toNatClampNeg = (amt (2 * i + 1).toNatClampNeg).toInt64
  ∧ (0 ≤ op i.toNatClampNeg ∧ op i.toNatClampNeg ≤ 5) ∧ ((-1) ≤ fx i.toNatClampNeg ∧ fx i.toNatClampNeg < cF) ∧ ((-1) ≤ al i.toNatClampNeg ∧ al i.toNatClampNeg ≤ 1000000)
  ∧ ((-1) ≤ made (2 * i + 0).toNatClampNeg ∧ made (2 * i + 0).toNatClampNeg < i) ∧ ((-1) ≤ made (2 * i + 1).toNatClampNeg ∧ made (2 * i + 1).toNatClampNeg < i)
  ∧ ((-10000000) ≤ amt (2 * i + 0).toNatClampNeg ∧ amt (2 * i + 0).toNatClampNeg ≤ 10000000) ∧ ((-10000000) ≤ amt (2 * i + 1).toNatClampNeg ∧ amt (2 * i + 1).toNatClampNeg ≤ 10000000)
  ∧ (op i.toNatClampNeg = 0 → made (2 * i + 0).toNatClampNeg = (-1) ∧ made (2 * i + 1).toNatClampNeg = (-1) ∧ amt (2 * i + 0).toNatClampNeg ≤ amt (2 * i + 1).toNatClampNeg)
  ∧ lets i.toNatClampNeg = zDeep (op i.toNatClampNeg) i made lets
noncomputable def zNu (d cN cF : Int32) (nN op fx al made amt lets mNN mO m1 m2 mX mW : Nat → Int32) (mA mB : Nat → Int64) : Prop := ∀ i : Int32, 0 ≤ i → i < cN → zNu1 d i cF nN op fx al made amt lets mNN mO m1 m2 mX mW mA mB
/-- groups: the same classes; the reference names each by its least NUMBER -/
noncomputable def zGr (d cN : Int32) (jn mG : Nat → Int32) : Prop := (∀ i : Int32, 0 ≤ i → i < cN → 0 ≤ mG (d + i).toNatClampNeg ∧ mG (d + i).toNatClampNeg ≤ i ∧ mG (d + mG (d + i).toNatClampNeg).toNatClampNeg = mG (d + i).toNatClampNeg) ∧ (∀ i j : Int32, 0 ≤ i → i < cN → 0 ≤ j → j < cN → (jn i.toNatClampNeg = jn j.toNatClampNeg ↔ mG (d + i).toNatClampNeg = mG (d + j).toNatClampNeg)) ∧ (∀ i : Int32, 0 ≤ i → i < cN → 0 ≤ jn i.toNatClampNeg ∧ jn i.toNatClampNeg < cN)
theorem zNR_F {d cF : Int32} {nF stp mst prc mNF mS mM mC : Nat → Int32} (h : zFm d cF nF stp mst prc mNF mS mM mC) : zNR d cF nF mNF := fun i h1 h2 => (h i h1 h2).1
theorem zNR_N {d cN cF : Int32} {nN op fx al made amt lets mNN mO m1 m2 mX mW : Nat → Int32} {mA mB : Nat → Int64} (h : zNu d cN cF nN op fx al made amt lets mNN mO m1 m2 mX mW mA mB) : zNR d cN nN mNN := fun i h1 h2 => (h i h1 h2).1
theorem zup {f : Nat → Int32} {a b x : Int32} (ha : 0 ≤ a) (hb : 0 ≤ b) : upd f a.toNatClampNeg x b.toNatClampNeg = if b = a then x else f b.toNatClampNeg := by
  rw [zu_at]
  by_cases c : b = a
  · rw [if_pos c, if_pos (by rw [c])]
  · rw [if_neg c, if_neg (fun q => c (zinj b a hb ha q))]
theorem zupL {f : Nat → Int64} {a b : Int32} {x : Int64} (ha : 0 ≤ a) (hb : 0 ≤ b) : vp_updL f a.toNatClampNeg x b.toNatClampNeg = if b = a then x else f b.toNatClampNeg := by
  rw [zu_atL]
  by_cases c : b = a
  · rw [if_pos c, if_pos (by rw [c])]
  · rw [if_neg c, if_neg (fun q => c (zinj b a hb ha q))]
/-- one FORMAT more -/
theorem zFm_add {d cF c m x1 x2 x3 : Int32} {nF stp mst prc mNF mS mM mC : Nat → Int32} (hd : 0 ≤ d ∧ d ≤ 14) (hc : 0 ≤ cF ∧ cF < 4) (h : zFm d cF nF stp mst prc mNF mS mM mC) (hnm : zNm c m) (h1 : 1 ≤ x1 ∧ x1 ≤ 1000000) (h2 : 1 ≤ x2 ∧ x2 ≤ 1000000000) (h3 : 0 ≤ x3 ∧ x3 ≤ 999) :
    zFm d (cF + 1) (upd nF cF.toNatClampNeg c) (upd stp cF.toNatClampNeg x1) (upd mst cF.toNatClampNeg x2) (upd prc cF.toNatClampNeg x3) (upd mNF (d + cF).toNatClampNeg m) (upd mS (d + cF).toNatClampNeg x1) (upd mM (d + cF).toNatClampNeg x2) (upd mC (d + cF).toNatClampNeg x3) := by
  intro i i1 i2
  unfold zFm1
  simp only [zup hc.1 i1, zup (a := d + cF) (b := d + i) (by grind) (by grind)]
  by_cases q : i = cF
  · have q2 : d + i = d + cF := by rw [q]
    simp only [if_pos q, if_pos q2]
    exact ⟨hnm, trivial, trivial, trivial, h1, h2, h3⟩
  · have q2 : ¬ d + i = d + cF := by grind
    simp only [if_neg q, if_neg q2]
    exact h i i1 (by grind)
theorem zNu_F {d cN cF : Int32} {nN op fx al made amt lets mNN mO m1 m2 mX mW : Nat → Int32} {mA mB : Nat → Int64} (h : zNu d cN cF nN op fx al made amt lets mNN mO m1 m2 mX mW mA mB) (hc : cF ≤ 4) : zNu d cN (cF + 1) nN op fx al made amt lets mNN mO m1 m2 mX mW mA mB := by
  intro i i1 i2
  obtain ⟨a1, a2, a3, a4, a5, a6, a7, a8, a9, ⟨b1, b2⟩, rest⟩ := h i i1 i2
  exact ⟨a1, a2, a3, a4, a5, a6, a7, a8, a9, ⟨b1, by grind⟩, rest⟩
theorem zNu_fix {d cN cF p x : Int32} {nN op fx al made amt lets mNN mO m1 m2 mX mW : Nat → Int32} {mA mB : Nat → Int64} (hd : 0 ≤ d ∧ d ≤ 14) (hc : cN ≤ 14) (hp : 0 ≤ p ∧ p < cN) (hx : 0 ≤ x ∧ x < cF) (h : zNu d cN cF nN op fx al made amt lets mNN mO m1 m2 mX mW mA mB) : zNu d cN cF nN op (upd fx p.toNatClampNeg x) al made amt lets mNN mO m1 m2 (upd mX (d + p).toNatClampNeg x) mW mA mB := by
  intro i i1 i2
  obtain ⟨a1, a2, a3, a4, a5, a6, a7, a8, a9, ⟨b1, b2⟩, rest⟩ := h i i1 i2
  refine ⟨a1, a2, ?_, a4, a5, a6, a7, a8, a9, ?_, rest⟩
  · rw [zup hp.1 i1, zup (by grind) (by grind)]
    by_cases q : i = p
    · rw [if_pos q, if_pos (by rw [q])]
    · rw [if_neg q, if_neg (by grind)]; exact a3
  · rw [zup hp.1 i1]
    by_cases q : i = p
    · rw [if_pos q]; grind
    · rw [if_neg q]; exact ⟨b1, b2⟩
theorem zNu_allow {d cN cF p x : Int32} {nN op fx al made amt lets mNN mO m1 m2 mX mW : Nat → Int32} {mA mB : Nat → Int64} (hd : 0 ≤ d ∧ d ≤ 14) (hc : cN ≤ 14) (hp : 0 ≤ p ∧ p < cN) (hx : 0 ≤ x ∧ x ≤ 1000000) (h : zNu d cN cF nN op fx al made amt lets mNN mO m1 m2 mX mW mA mB) : zNu d cN cF nN op fx (upd al p.toNatClampNeg x) made amt lets mNN mO m1 m2 mX (upd mW (d + p).toNatClampNeg x) mA mB := by
  intro i i1 i2
  obtain ⟨a1, a2, a3, a4, a5, a6, a7, a8, a9, b, ⟨c1, c2⟩, rest⟩ := h i i1 i2
  refine ⟨a1, a2, a3, ?_, a5, a6, a7, a8, a9, b, ?_, rest⟩
  · rw [zup hp.1 i1, zup (by grind) (by grind)]
    by_cases q : i = p
    · rw [if_pos q, if_pos (by rw [q])]
    · rw [if_neg q, if_neg (by grind)]; exact a4
  · rw [zup hp.1 i1]
    by_cases q : i = p
    · rw [if_pos q]; grind
    · rw [if_neg q]; exact ⟨c1, c2⟩
/-- lets of NUMBERS ahead don't look at the one that is new -/
theorem zDeep_up {w i cN p1 p2 y : Int32} {made lets : Nat → Int32} (hi : 0 ≤ i ∧ i < cN) (hc : cN < 14) : zDeep w i (upd (upd made (2 * cN + 0).toNatClampNeg p1) (2 * cN + 1).toNatClampNeg p2) (upd lets cN.toNatClampNeg y) = zDeep w i made lets := by
  have e : ∀ s : Int32, (s = 0 ∨ s = 1) → zLets i (upd (upd made (2 * cN + 0).toNatClampNeg p1) (2 * cN + 1).toNatClampNeg p2) (upd lets cN.toNatClampNeg y) s = zLets i made lets s := by
    intro s hs
    have eM : upd (upd made (2 * cN + 0).toNatClampNeg p1) (2 * cN + 1).toNatClampNeg p2 (2 * i + s).toNatClampNeg = made (2 * i + s).toNatClampNeg := by
      rw [zup (a := 2 * cN + 1) (b := 2 * i + s) (by grind) (by grind), if_neg (by grind), zup (a := 2 * cN + 0) (b := 2 * i + s) (by grind) (by grind), if_neg (by grind)]
    unfold zLets
    rw [eM]
    by_cases q : made (2 * i + s).toNatClampNeg < 0 ∨ i ≤ made (2 * i + s).toNatClampNeg
    · rw [if_pos q, if_pos q]
    · rw [if_neg q, if_neg q, zup (by grind) (by grind), if_neg (by grind)]
  unfold zDeep
  rw [e 0 (Or.inl rfl), e 1 (Or.inr rfl)]
theorem zDeep_c {w i : Int32} {M a b : Nat → Int32} (h : ∀ s : Int32, zLets i M a s = zLets i M b s) : zDeep w i M a = zDeep w i M b := by
  unfold zDeep
  rw [h 0, h 1]
/-- one NUMBER more -/
theorem zNu_add {d cN cF c m w p1 p2 x1 x2 : Int32} {nN op fx al made amt lets mNN mO m1 m2 mX mW M1 M2 : Nat → Int32} {mA mB : Nat → Int64} (hd : 0 ≤ d ∧ d ≤ 14) (hc : 0 ≤ cN ∧ cN < 14) (hF : 0 ≤ cF) (h : zNu d cN cF nN op fx al made amt lets mNN mO m1 m2 mX mW mA mB) (hnm : zNm c m) (hw : 0 ≤ w ∧ w ≤ 5) (hp1 : (-1) ≤ p1 ∧ p1 < cN) (hp2 : (-1) ≤ p2 ∧ p2 < cN) (hx1 : (-10000000) ≤ x1 ∧ x1 ≤ 10000000) (hx2 : (-10000000) ≤ x2 ∧ x2 ≤ 10000000) (hin : w = 0 → p1 = (-1) ∧ p2 = (-1) ∧ x1 ≤ x2)
    (hM1 : ∀ b : Int32, 0 ≤ b → M1 b.toNatClampNeg = if b = d + cN then p1 else m1 b.toNatClampNeg) (hM2 : ∀ b : Int32, 0 ≤ b → M2 b.toNatClampNeg = if b = d + cN then p2 else m2 b.toNatClampNeg) :
    zNu d (cN + 1) cF (upd nN cN.toNatClampNeg c) (upd op cN.toNatClampNeg w) (upd fx cN.toNatClampNeg (-1)) (upd al cN.toNatClampNeg (-1)) (upd (upd made (2 * cN + 0).toNatClampNeg p1) (2 * cN + 1).toNatClampNeg p2) (upd (upd amt (2 * cN + 0).toNatClampNeg x1) (2 * cN + 1).toNatClampNeg x2) (upd lets cN.toNatClampNeg (zDeep w cN (upd (upd made (2 * cN + 0).toNatClampNeg p1) (2 * cN + 1).toNatClampNeg p2) lets)) (upd mNN (d + cN).toNatClampNeg m) (upd mO (d + cN).toNatClampNeg w) M1 M2 (upd mX (d + cN).toNatClampNeg (-1)) (upd mW (d + cN).toNatClampNeg (-1)) (vp_updL mA (d + cN).toNatClampNeg x1.toInt64) (vp_updL mB (d + cN).toNatClampNeg x2.toInt64) := by
  intro i i1 i2
  unfold zNu1
  have e0 := zup (f := upd made (2 * cN + 0).toNatClampNeg p1) (a := 2 * cN + 1) (b := 2 * i + 0) (x := p2) (by grind) (by grind)
  have e1 := zup (f := made) (a := 2 * cN + 0) (b := 2 * i + 0) (x := p1) (by grind) (by grind)
  have e2 := zup (f := upd made (2 * cN + 0).toNatClampNeg p1) (a := 2 * cN + 1) (b := 2 * i + 1) (x := p2) (by grind) (by grind)
  have e3 := zup (f := made) (a := 2 * cN + 0) (b := 2 * i + 1) (x := p1) (by grind) (by grind)
  have g0 := zup (f := upd amt (2 * cN + 0).toNatClampNeg x1) (a := 2 * cN + 1) (b := 2 * i + 0) (x := x2) (by grind) (by grind)
  have g1 := zup (f := amt) (a := 2 * cN + 0) (b := 2 * i + 0) (x := x1) (by grind) (by grind)
  have g2 := zup (f := upd amt (2 * cN + 0).toNatClampNeg x1) (a := 2 * cN + 1) (b := 2 * i + 1) (x := x2) (by grind) (by grind)
  have g3 := zup (f := amt) (a := 2 * cN + 0) (b := 2 * i + 1) (x := x1) (by grind) (by grind)
  by_cases q : i = cN
  · subst q
    rw [if_neg (by grind)] at e0 g0
    rw [if_pos rfl] at e1 g1 e2 g2
    have hl : ∀ s : Int32, zLets i (upd (upd made (2 * i + 0).toNatClampNeg p1) (2 * i + 1).toNatClampNeg p2) (upd lets i.toNatClampNeg (zDeep w i (upd (upd made (2 * i + 0).toNatClampNeg p1) (2 * i + 1).toNatClampNeg p2) lets)) s = zLets i (upd (upd made (2 * i + 0).toNatClampNeg p1) (2 * i + 1).toNatClampNeg p2) lets s := by
      intro s
      unfold zLets
      generalize upd (upd made (2 * i + 0).toNatClampNeg p1) (2 * i + 1).toNatClampNeg p2 (2 * i + s).toNatClampNeg = z
      by_cases w1 : z < 0 ∨ i ≤ z
      · rw [if_pos w1, if_pos w1]
      · rw [if_neg w1, if_neg w1, zup i1 (by grind), if_neg (by grind)]
    simp only [zup i1 i1, if_true, zup (a := d + i) (b := d + i) (by grind) (by grind), zupL (a := d + i) (b := d + i) (by grind) (by grind), e0, e1, e2, g0, g1, g2, hM1 (d + i) (by grind), hM2 (d + i) (by grind)]
    refine ⟨hnm, trivial, trivial, trivial, trivial, trivial, trivial, trivial, hw, by grind, by decide, hp1, hp2, hx1, hx2, hin, ?_⟩
    exact (zDeep_c hl).symm
  · have hlt : i < cN := by grind
    rw [if_neg (by grind)] at e0 g0 e1 g1 e2 g2 e3 g3
    have hd1 : ¬ d + i = d + cN := by grind
    simp only [zup hc.1 i1, if_neg q, zup (a := d + cN) (b := d + i) (by grind) (by grind), zupL (a := d + cN) (b := d + i) (by grind) (by grind), if_neg hd1, e0, e1, e2, e3, g0, g1, g2, g3, hM1 (d + i) (by grind), hM2 (d + i) (by grind), zDeep_up ⟨i1, hlt⟩ hc.2]
    exact h i i1 hlt
theorem zGr_add {d cN : Int32} {jn mG : Nat → Int32} (hd : 0 ≤ d ∧ d ≤ 14) (hc : 0 ≤ cN ∧ cN < 14) (h : zGr d cN jn mG) : zGr d (cN + 1) (upd jn cN.toNatClampNeg cN) (upd mG (d + cN).toNatClampNeg cN) := by
  obtain ⟨h1, h2, h3⟩ := h
  refine ⟨fun i i1 i2 => ?_, fun i j i1 i2 j1 j2 => ?_, fun i i1 i2 => ?_⟩
  · rw [zup (a := d + cN) (b := d + i) (by grind) (by grind)]
    by_cases q : i = cN
    · subst q
      rw [if_pos rfl, zup (by grind) (by grind), if_pos rfl]
      exact ⟨i1, by grind, rfl⟩
    · rw [if_neg (by grind)]
      obtain ⟨w1, w2, w3⟩ := h1 i i1 (by grind)
      rw [zup (by grind) (by grind), if_neg (by grind)]
      exact ⟨w1, w2, w3⟩
  · rw [zup hc.1 i1, zup hc.1 j1, zup (a := d + cN) (b := d + i) (by grind) (by grind), zup (a := d + cN) (b := d + j) (by grind) (by grind)]
    by_cases qi : i = cN
    · by_cases qj : j = cN
      · rw [if_pos qi, if_pos qj, if_pos (by grind), if_pos (by grind)]
      · rw [if_pos qi, if_neg qj, if_pos (by grind), if_neg (by grind)]
        have w1 := h3 j j1 (by grind)
        have w2 := h1 j j1 (by grind)
        constructor
        · intro w; grind
        · intro w; grind
    · by_cases qj : j = cN
      · rw [if_neg qi, if_pos qj, if_neg (by grind), if_pos (by grind)]
        have w1 := h3 i i1 (by grind)
        have w2 := h1 i i1 (by grind)
        constructor
        · intro w; grind
        · intro w; grind
      · rw [if_neg qi, if_neg qj, if_neg (by grind), if_neg (by grind)]
        exact h2 i j i1 (by grind) j1 (by grind)
  · rw [zup hc.1 i1]
    by_cases q : i = cN
    · rw [if_pos q]; grind
    · rw [if_neg q]
      have := h3 i i1 (by grind)
      grind
theorem zGr_merge {cN p p' : Int32} {jn mG J G : Nat → Int32} (hc : cN ≤ 14) (hp : 0 ≤ p ∧ p < cN) (hp' : 0 ≤ p' ∧ p' < cN) (h : zGr 14 cN jn mG) (hJ : ∀ x : Int32, 0 ≤ x → x < cN → J x.toNatClampNeg = if jn x.toNatClampNeg = jn p'.toNatClampNeg then jn p.toNatClampNeg else jn x.toNatClampNeg) (hG : zMg cN p p' mG G) : zGr 14 cN J G := by
  obtain ⟨h1, h2, h3⟩ := h
  obtain ⟨hG, _⟩ := hG
  have a1 := h1 p hp.1 hp.2
  have a2 := h1 p' hp'.1 hp'.2
  refine ⟨fun i i1 i2 => ?_, fun i j i1 i2 j1 j2 => ?_, fun i i1 i2 => ?_⟩
  · have a3 := h1 i i1 i2
    rw [hG i i1 i2]
    by_cases q : mG (14 + i).toNatClampNeg = mG (14 + p).toNatClampNeg ∨ mG (14 + i).toNatClampNeg = mG (14 + p').toNatClampNeg
    · rw [if_pos q]
      have hm : zMn (mG (14 + p).toNatClampNeg) (mG (14 + p').toNatClampNeg) = mG (14 + p).toNatClampNeg ∨ zMn (mG (14 + p).toNatClampNeg) (mG (14 + p').toNatClampNeg) = mG (14 + p').toNatClampNeg := by
        unfold zMn
        split
        · exact Or.inl rfl
        · exact Or.inr rfl
      have hle : zMn (mG (14 + p).toNatClampNeg) (mG (14 + p').toNatClampNeg) ≤ mG (14 + p).toNatClampNeg ∧ zMn (mG (14 + p).toNatClampNeg) (mG (14 + p').toNatClampNeg) ≤ mG (14 + p').toNatClampNeg := by
        unfold zMn
        split
        · grind
        · grind
      have h0 : 0 ≤ zMn (mG (14 + p).toNatClampNeg) (mG (14 + p').toNatClampNeg) := by
        rcases hm with w | w
        · rw [w]; exact a1.1
        · rw [w]; exact a2.1
      refine ⟨h0, by grind, ?_⟩
      rw [hG _ h0 (by grind)]
      rcases hm with w | w
      · rw [if_pos (by rw [w]; exact Or.inl a1.2.2)]
      · rw [if_pos (by rw [w]; exact Or.inr a2.2.2)]
    · rw [if_neg q]
      refine ⟨a3.1, a3.2.1, ?_⟩
      rw [hG _ a3.1 (by grind), a3.2.2, if_neg q]
  · rw [hJ i i1 i2, hJ j j1 j2, hG i i1 i2, hG j j1 j2]
    have b1 := h2 i p i1 i2 hp.1 hp.2
    have b2 := h2 i p' i1 i2 hp'.1 hp'.2
    have b3 := h2 j p j1 j2 hp.1 hp.2
    have b4 := h2 j p' j1 j2 hp'.1 hp'.2
    have b5 := h2 i j i1 i2 j1 j2
    have b6 := h2 p p' hp.1 hp.2 hp'.1 hp'.2
    have hm : zMn (mG (14 + p).toNatClampNeg) (mG (14 + p').toNatClampNeg) = mG (14 + p).toNatClampNeg ∨ zMn (mG (14 + p).toNatClampNeg) (mG (14 + p').toNatClampNeg) = mG (14 + p').toNatClampNeg := by
      unfold zMn
      split
      · exact Or.inl rfl
      · exact Or.inr rfl
    generalize zMn (mG (14 + p).toNatClampNeg) (mG (14 + p').toNatClampNeg) = z at hm ⊢
    generalize mG (14 + i).toNatClampNeg = gi at *
    generalize mG (14 + j).toNatClampNeg = gj at *
    generalize mG (14 + p).toNatClampNeg = gp at *
    generalize mG (14 + p').toNatClampNeg = gq at *
    generalize jn i.toNatClampNeg = ji at *
    generalize jn j.toNatClampNeg = jj at *
    generalize jn p.toNatClampNeg = jp at *
    generalize jn p'.toNatClampNeg = jq at *
    clear h1 h2 h3 hJ hG
    grind
  · rw [hJ i i1 i2]
    split
    · exact h3 p hp.1 hp.2
    · exact h3 i i1 i2
/-! a TASK that is being read: class and reference -/
noncomputable def zCnt (op : Nat → Int32) : Nat → Int32
  | 0 => 0
  | k + 1 => zCnt op k + (if op k = 0 then 1 else 0)
noncomputable def zTS (cF cc cN inp : Int32) (nF nN stp mst prc al made amt op fx jn lets : Nat → Int32) (mF mN mNF mNN mS mM mC mW mCst mO m1 m2 mX mG : Nat → Int32) (mA mB : Nat → Int64) : Prop := (mF 1 = cF ∧ 0 ≤ cF ∧ cF ≤ 4) ∧ (mN 1 = cN ∧ 0 ≤ cN ∧ cN ≤ 14) ∧ (mCst 1 = cc ∧ 0 ≤ cc ∧ cc ≤ 999) ∧ inp = zCnt op cN.toNatClampNeg ∧ zFm 4 cF nF stp mst prc mNF mS mM mC ∧ zNu 14 cN cF nN op fx al made amt lets mNN mO m1 m2 mX mW mA mB ∧ zGr 14 cN jn mG
noncomputable def zK4 (A B : Nat → Int32) : Prop := ∀ y : Nat, y < 4 → B y = A y
noncomputable def zK14 (A B : Nat → Int32) : Prop := ∀ y : Nat, y < 14 → B y = A y
noncomputable def zL14 (A B : Nat → Int64) : Prop := ∀ y : Nat, y < 14 → B y = A y
noncomputable def zFR (mF mN mNF mNN mS mM mC mW mCst mO m1 m2 mX mG : Nat → Int32) (mA mB : Nat → Int64) (mF' mN' mNF' mNN' mS' mM' mC' mW' mCst' mO' m1' m2' mX' mG' : Nat → Int32) (mA' mB' : Nat → Int64) : Prop := mF' 0 = mF 0 ∧ mN' 0 = mN 0 ∧ zK4 mNF mNF' ∧ zK14 mNN mNN' ∧ zK4 mS mS' ∧ zK4 mM mM' ∧ zK4 mC mC' ∧ zK14 mW mW' ∧ mCst' 0 = mCst 0 ∧ zK14 mO mO' ∧ zK14 m1 m1' ∧ zK14 m2 m2' ∧ zK14 mX mX' ∧ zK14 mG mG' ∧ zL14 mA mA' ∧ zL14 mB mB'
theorem zFR_rf {mF mN mNF mNN mS mM mC mW mCst mO m1 m2 mX mG : Nat → Int32} {mA mB : Nat → Int64} : zFR mF mN mNF mNN mS mM mC mW mCst mO m1 m2 mX mG mA mB mF mN mNF mNN mS mM mC mW mCst mO m1 m2 mX mG mA mB := ⟨rfl, rfl, (fun _ _ => rfl), (fun _ _ => rfl), (fun _ _ => rfl), (fun _ _ => rfl), (fun _ _ => rfl), (fun _ _ => rfl), rfl, (fun _ _ => rfl), (fun _ _ => rfl), (fun _ _ => rfl), (fun _ _ => rfl), (fun _ _ => rfl), (fun _ _ => rfl), (fun _ _ => rfl)⟩
theorem zK4_up {A : Nat → Int32} {i x : Int32} (h : 0 ≤ i ∧ i < 4) : zK4 A (upd A (4 + i).toNatClampNeg x) := by
  intro y hy
  show (if y = (4 + i).toNatClampNeg then x else A y) = A y
  rw [if_neg]
  intro q
  have h1 := Int32.le_iff_toInt_le.mp h.1
  have h2 := Int32.lt_iff_toInt_lt.mp h.2
  rw [zi_0] at h1
  rw [show (4 : Int32).toInt = 4 by decide +kernel] at h2
  have h3 := zo_add (x := 4) (y := i) (z := 4 + i) rfl (by decide +kernel : (4 : Int32).toInt = 4) rfl (by omega)
  have h4 : (4 + i).toNatClampNeg = (4 + i).toInt.toNat := rfl
  omega
theorem zi14 {i : Int32} (h : 0 ≤ i ∧ i < 14) : 14 ≤ (14 + i).toNatClampNeg := by
  have h1 := Int32.le_iff_toInt_le.mp h.1
  have h2 := Int32.lt_iff_toInt_lt.mp h.2
  rw [zi_0] at h1
  rw [show (14 : Int32).toInt = 14 by decide +kernel] at h2
  have h3 := zo_add (x := 14) (y := i) (z := 14 + i) rfl (by decide +kernel : (14 : Int32).toInt = 14) rfl (by omega)
  show 14 ≤ (14 + i).toInt.toNat
  omega
theorem zK14_up {A : Nat → Int32} {i x : Int32} (h : 0 ≤ i ∧ i < 14) : zK14 A (upd A (14 + i).toNatClampNeg x) := by
  intro y hy
  have := zi14 h
  show (if y = (14 + i).toNatClampNeg then x else A y) = A y
  rw [if_neg (by omega)]
theorem zK14_up2 {A : Nat → Int32} {i x z : Int32} (h : 0 ≤ i ∧ i < 14) : zK14 A (upd (upd A (14 + i).toNatClampNeg z) (14 + i).toNatClampNeg x) := by
  intro y hy
  have := zi14 h
  show (if y = (14 + i).toNatClampNeg then x else if y = (14 + i).toNatClampNeg then z else A y) = A y
  rw [if_neg (by omega), if_neg (by omega)]
theorem zL14_up {A : Nat → Int64} {i : Int32} {x : Int64} (h : 0 ≤ i ∧ i < 14) : zL14 A (vp_updL A (14 + i).toNatClampNeg x) := by
  intro y hy
  have := zi14 h
  show (if y = (14 + i).toNatClampNeg then x else A y) = A y
  rw [if_neg (by omega)]
theorem zCnt_up {op : Nat → Int32} {w : Int32} : ∀ {k j : Nat}, k ≤ j → zCnt (upd op j w) k = zCnt op k := by
  intro k
  induction k with
  | zero => intro j _; rfl
  | succ k ih =>
    intro j hj
    show zCnt (upd op j w) k + (if upd op j w k = 0 then 1 else 0) = zCnt op k + (if op k = 0 then 1 else 0)
    rw [ih (by omega), show upd op j w k = op k from if_neg (by omega)]
theorem zCnt_add {op : Nat → Int32} {w cN : Int32} (h : 0 ≤ cN ∧ cN < 14) : zCnt (upd op cN.toNatClampNeg w) (cN + 1).toNatClampNeg = zCnt op cN.toNatClampNeg + (if w = 0 then 1 else 0) := by
  rw [zNx h.1 (by grind)]
  show zCnt (upd op cN.toNatClampNeg w) cN.toNatClampNeg + (if upd op cN.toNatClampNeg w cN.toNatClampNeg = 0 then 1 else 0) = _
  rw [zCnt_up (Nat.le_refl _), show upd op cN.toNatClampNeg w cN.toNatClampNeg = w from if_pos rfl]
theorem zup_tw {f : Nat → Int32} {a x z : Int32} (ha : 0 ≤ a) : ∀ b : Int32, 0 ≤ b → upd (upd f a.toNatClampNeg z) a.toNatClampNeg x b.toNatClampNeg = if b = a then x else f b.toNatClampNeg := by
  intro b hb
  rw [zup ha hb, zup ha hb]
  by_cases q : b = a
  · rw [if_pos q, if_pos q]
  · rw [if_neg q, if_neg q, if_neg q]
theorem zTS_fmt {cF cc cN inp : Int32} {nF nN stp mst prc al made amt op fx jn lets : Nat → Int32} {mF mN mNF mNN mS mM mC mW mCst mO m1 m2 mX mG : Nat → Int32} {mA mB : Nat → Int64} {c m x1 x2 x3 : Int32} (h : zTS cF cc cN inp nF nN stp mst prc al made amt op fx jn lets mF mN mNF mNN mS mM mC mW mCst mO m1 m2 mX mG mA mB) (hc : cF < 4) (hnm : zNm c m) (h1 : 1 ≤ x1 ∧ x1 ≤ 1000000) (h2 : 1 ≤ x2 ∧ x2 ≤ 1000000000) (h3 : 0 ≤ x3 ∧ x3 ≤ 999) : zTS (cF + 1) cc cN inp (upd nF cF.toNatClampNeg c) nN (upd stp cF.toNatClampNeg x1) (upd mst cF.toNatClampNeg x2) (upd prc cF.toNatClampNeg x3) al made amt op fx jn lets (upd mF 1 (cF + 1)) mN (upd mNF (4 + cF).toNatClampNeg m) mNN (upd mS (4 + cF).toNatClampNeg x1) (upd mM (4 + cF).toNatClampNeg x2) (upd mC (4 + cF).toNatClampNeg x3) mW mCst mO m1 m2 mX mG mA mB ∧ zFR mF mN mNF mNN mS mM mC mW mCst mO m1 m2 mX mG mA mB (upd mF 1 (cF + 1)) mN (upd mNF (4 + cF).toNatClampNeg m) mNN (upd mS (4 + cF).toNatClampNeg x1) (upd mM (4 + cF).toNatClampNeg x2) (upd mC (4 + cF).toNatClampNeg x3) mW mCst mO m1 m2 mX mG mA mB := by
  obtain ⟨hF, hN, hC, hI, hfm, hnu, hgr⟩ := h
  exact ⟨⟨⟨rfl, by grind, by grind⟩, hN, hC, hI, zFm_add ⟨by decide, by decide⟩ ⟨hF.2.1, hc⟩ hfm hnm h1 h2 h3, zNu_F hnu (by grind), hgr⟩, ⟨rfl, rfl, (zK4_up ⟨hF.2.1, hc⟩), (fun _ _ => rfl), (zK4_up ⟨hF.2.1, hc⟩), (zK4_up ⟨hF.2.1, hc⟩), (zK4_up ⟨hF.2.1, hc⟩), (fun _ _ => rfl), rfl, (fun _ _ => rfl), (fun _ _ => rfl), (fun _ _ => rfl), (fun _ _ => rfl), (fun _ _ => rfl), (fun _ _ => rfl), (fun _ _ => rfl)⟩⟩
theorem zTS_cast {cF cc cN inp : Int32} {nF nN stp mst prc al made amt op fx jn lets : Nat → Int32} {mF mN mNF mNN mS mM mC mW mCst mO m1 m2 mX mG : Nat → Int32} {mA mB : Nat → Int64} {x : Int32} (h : zTS cF cc cN inp nF nN stp mst prc al made amt op fx jn lets mF mN mNF mNN mS mM mC mW mCst mO m1 m2 mX mG mA mB) (hx : 0 ≤ x ∧ x ≤ 999) : zTS cF x cN inp nF nN stp mst prc al made amt op fx jn lets mF mN mNF mNN mS mM mC mW (upd mCst 1 x) mO m1 m2 mX mG mA mB ∧ zFR mF mN mNF mNN mS mM mC mW mCst mO m1 m2 mX mG mA mB mF mN mNF mNN mS mM mC mW (upd mCst 1 x) mO m1 m2 mX mG mA mB := by
  obtain ⟨hF, hN, hC, hI, hfm, hnu, hgr⟩ := h
  exact ⟨⟨hF, hN, ⟨rfl, hx.1, hx.2⟩, hI, hfm, hnu, hgr⟩, ⟨rfl, rfl, (fun _ _ => rfl), (fun _ _ => rfl), (fun _ _ => rfl), (fun _ _ => rfl), (fun _ _ => rfl), (fun _ _ => rfl), rfl, (fun _ _ => rfl), (fun _ _ => rfl), (fun _ _ => rfl), (fun _ _ => rfl), (fun _ _ => rfl), (fun _ _ => rfl), (fun _ _ => rfl)⟩⟩
theorem zTS_let {cF cc cN inp : Int32} {nF nN stp mst prc al made amt op fx jn lets : Nat → Int32} {mF mN mNF mNN mS mM mC mW mCst mO m1 m2 mX mG : Nat → Int32} {mA mB : Nat → Int64} {c m w p1 p2 x1 x2 : Int32} (h : zTS cF cc cN inp nF nN stp mst prc al made amt op fx jn lets mF mN mNF mNN mS mM mC mW mCst mO m1 m2 mX mG mA mB) (hc : cN < 14) (hnm : zNm c m) (hw : 1 ≤ w ∧ w ≤ 5) (hp1 : (-1) ≤ p1 ∧ p1 < cN) (hp2 : (-1) ≤ p2 ∧ p2 < cN) (hx1 : (-1000000) ≤ x1 ∧ x1 ≤ 1000000) (hx2 : (-1000000) ≤ x2 ∧ x2 ≤ 1000000) : zTS cF cc (cN + 1) inp nF (upd nN cN.toNatClampNeg c) stp mst prc (upd al cN.toNatClampNeg (-1)) (upd (upd made (2 * cN + 0).toNatClampNeg p1) (2 * cN + 1).toNatClampNeg p2) (upd (upd amt (2 * cN + 0).toNatClampNeg x1) (2 * cN + 1).toNatClampNeg x2) (upd op cN.toNatClampNeg w) (upd fx cN.toNatClampNeg (-1)) (upd jn cN.toNatClampNeg cN) (upd lets cN.toNatClampNeg (zDeep w cN (upd (upd made (2 * cN + 0).toNatClampNeg p1) (2 * cN + 1).toNatClampNeg p2) lets)) mF (upd mN 1 (cN + 1)) mNF (upd mNN (14 + cN).toNatClampNeg m) mS mM mC (upd mW (14 + cN).toNatClampNeg (-1)) mCst (upd mO (14 + cN).toNatClampNeg w) (upd (upd m1 (14 + cN).toNatClampNeg (-1)) (14 + cN).toNatClampNeg p1) (upd (upd m2 (14 + cN).toNatClampNeg (-1)) (14 + cN).toNatClampNeg p2) (upd mX (14 + cN).toNatClampNeg (-1)) (upd mG (14 + cN).toNatClampNeg cN) (vp_updL mA (14 + cN).toNatClampNeg x1.toInt64) (vp_updL mB (14 + cN).toNatClampNeg x2.toInt64) ∧ zFR mF mN mNF mNN mS mM mC mW mCst mO m1 m2 mX mG mA mB mF (upd mN 1 (cN + 1)) mNF (upd mNN (14 + cN).toNatClampNeg m) mS mM mC (upd mW (14 + cN).toNatClampNeg (-1)) mCst (upd mO (14 + cN).toNatClampNeg w) (upd (upd m1 (14 + cN).toNatClampNeg (-1)) (14 + cN).toNatClampNeg p1) (upd (upd m2 (14 + cN).toNatClampNeg (-1)) (14 + cN).toNatClampNeg p2) (upd mX (14 + cN).toNatClampNeg (-1)) (upd mG (14 + cN).toNatClampNeg cN) (vp_updL mA (14 + cN).toNatClampNeg x1.toInt64) (vp_updL mB (14 + cN).toNatClampNeg x2.toInt64) := by
  obtain ⟨hF, hN, hC, hI, hfm, hnu, hgr⟩ := h
  have h14 : 0 ≤ 14 + cN := by grind
  refine ⟨⟨hF, ⟨rfl, by grind, by grind⟩, hC, ?_, hfm, zNu_add ⟨by decide, by decide⟩ ⟨hN.2.1, hc⟩ hF.2.1 hnu hnm ⟨by grind, hw.2⟩ hp1 hp2 ⟨by grind, by grind⟩ ⟨by grind, by grind⟩ (fun q => absurd q (by grind)) (zup_tw h14) (zup_tw h14), zGr_add ⟨by decide, by decide⟩ ⟨hN.2.1, hc⟩ hgr⟩, ⟨rfl, rfl, (fun _ _ => rfl), (zK14_up ⟨hN.2.1, hc⟩), (fun _ _ => rfl), (fun _ _ => rfl), (fun _ _ => rfl), (zK14_up ⟨hN.2.1, hc⟩), rfl, (zK14_up ⟨hN.2.1, hc⟩), (zK14_up2 ⟨hN.2.1, hc⟩), (zK14_up2 ⟨hN.2.1, hc⟩), (zK14_up ⟨hN.2.1, hc⟩), (zK14_up ⟨hN.2.1, hc⟩), (zL14_up ⟨hN.2.1, hc⟩), (zL14_up ⟨hN.2.1, hc⟩)⟩⟩
  rw [zCnt_add ⟨hN.2.1, hc⟩, if_neg (by grind), hI]
  grind
theorem zDeep_0 {cN : Int32} {a b : Nat → Int32} : zDeep 0 cN a b = 0 := rfl
theorem zTS_box {cF cc cN inp : Int32} {nF nN stp mst prc al made amt op fx jn lets : Nat → Int32} {mF mN mNF mNN mS mM mC mW mCst mO m1 m2 mX mG : Nat → Int32} {mA mB : Nat → Int64} {c m x1 x2 : Int32} (h : zTS cF cc cN inp nF nN stp mst prc al made amt op fx jn lets mF mN mNF mNN mS mM mC mW mCst mO m1 m2 mX mG mA mB) (hc : cN < 14) (hnm : zNm c m) (l1 : (-10000000) ≤ x1) (l2 : x1 ≤ x2) (l3 : x2 ≤ 10000000) : zTS cF cc (cN + 1) (inp + 1) nF (upd nN cN.toNatClampNeg c) stp mst prc (upd al cN.toNatClampNeg (-1)) (upd (upd made (2 * cN + 0).toNatClampNeg (-1)) (2 * cN + 1).toNatClampNeg (-1)) (upd (upd amt (2 * cN + 0).toNatClampNeg x1) (2 * cN + 1).toNatClampNeg x2) (upd op cN.toNatClampNeg 0) (upd fx cN.toNatClampNeg (-1)) (upd jn cN.toNatClampNeg cN) (upd lets cN.toNatClampNeg 0) mF (upd mN 1 (cN + 1)) mNF (upd mNN (14 + cN).toNatClampNeg m) mS mM mC (upd mW (14 + cN).toNatClampNeg (-1)) mCst (upd mO (14 + cN).toNatClampNeg 0) (upd m1 (14 + cN).toNatClampNeg (-1)) (upd m2 (14 + cN).toNatClampNeg (-1)) (upd mX (14 + cN).toNatClampNeg (-1)) (upd mG (14 + cN).toNatClampNeg cN) (vp_updL mA (14 + cN).toNatClampNeg x1.toInt64) (vp_updL mB (14 + cN).toNatClampNeg x2.toInt64) ∧ zFR mF mN mNF mNN mS mM mC mW mCst mO m1 m2 mX mG mA mB mF (upd mN 1 (cN + 1)) mNF (upd mNN (14 + cN).toNatClampNeg m) mS mM mC (upd mW (14 + cN).toNatClampNeg (-1)) mCst (upd mO (14 + cN).toNatClampNeg 0) (upd m1 (14 + cN).toNatClampNeg (-1)) (upd m2 (14 + cN).toNatClampNeg (-1)) (upd mX (14 + cN).toNatClampNeg (-1)) (upd mG (14 + cN).toNatClampNeg cN) (vp_updL mA (14 + cN).toNatClampNeg x1.toInt64) (vp_updL mB (14 + cN).toNatClampNeg x2.toInt64) := by
  obtain ⟨hF, hN, hC, hI, hfm, hnu, hgr⟩ := h
  have h14 : 0 ≤ 14 + cN := by grind
  have hz : zDeep 0 cN (upd (upd made (2 * cN + 0).toNatClampNeg (-1)) (2 * cN + 1).toNatClampNeg (-1)) lets = 0 := rfl
  have hnu' := zNu_add (w := 0) (p1 := -1) (p2 := -1) (x1 := x1) (x2 := x2) ⟨by decide, by decide⟩ ⟨hN.2.1, hc⟩ hF.2.1 hnu hnm ⟨by decide, by decide⟩ ⟨by decide, by grind⟩ ⟨by decide, by grind⟩ ⟨l1, by grind⟩ ⟨by grind, l3⟩ (fun _ => ⟨rfl, rfl, l2⟩) (fun b hb => zup h14 hb) (fun b hb => zup h14 hb)
  rw [hz] at hnu'
  refine ⟨⟨hF, ⟨rfl, by grind, by grind⟩, hC, ?_, hfm, hnu', zGr_add ⟨by decide, by decide⟩ ⟨hN.2.1, hc⟩ hgr⟩, ⟨rfl, rfl, (fun _ _ => rfl), (zK14_up ⟨hN.2.1, hc⟩), (fun _ _ => rfl), (fun _ _ => rfl), (fun _ _ => rfl), (zK14_up ⟨hN.2.1, hc⟩), rfl, (zK14_up ⟨hN.2.1, hc⟩), (zK14_up ⟨hN.2.1, hc⟩), (zK14_up ⟨hN.2.1, hc⟩), (zK14_up ⟨hN.2.1, hc⟩), (zK14_up ⟨hN.2.1, hc⟩), (zL14_up ⟨hN.2.1, hc⟩), (zL14_up ⟨hN.2.1, hc⟩)⟩⟩
  rw [zCnt_add ⟨hN.2.1, hc⟩, if_pos rfl, hI]
theorem zTS_fix {cF cc cN inp : Int32} {nF nN stp mst prc al made amt op fx jn lets : Nat → Int32} {mF mN mNF mNN mS mM mC mW mCst mO m1 m2 mX mG : Nat → Int32} {mA mB : Nat → Int64} {i x : Int32} (h : zTS cF cc cN inp nF nN stp mst prc al made amt op fx jn lets mF mN mNF mNN mS mM mC mW mCst mO m1 m2 mX mG mA mB) (hi : 0 ≤ i ∧ i < cN) (hx : 0 ≤ x ∧ x < cF) : zTS cF cc cN inp nF nN stp mst prc al made amt op (upd fx i.toNatClampNeg x) jn lets mF mN mNF mNN mS mM mC mW mCst mO m1 m2 (upd mX (14 + i).toNatClampNeg x) mG mA mB ∧ zFR mF mN mNF mNN mS mM mC mW mCst mO m1 m2 mX mG mA mB mF mN mNF mNN mS mM mC mW mCst mO m1 m2 (upd mX (14 + i).toNatClampNeg x) mG mA mB := by
  obtain ⟨hF, hN, hC, hI, hfm, hnu, hgr⟩ := h
  exact ⟨⟨hF, hN, hC, hI, hfm, zNu_fix ⟨by decide, by decide⟩ hN.2.2 hi hx hnu, hgr⟩, ⟨rfl, rfl, (fun _ _ => rfl), (fun _ _ => rfl), (fun _ _ => rfl), (fun _ _ => rfl), (fun _ _ => rfl), (fun _ _ => rfl), rfl, (fun _ _ => rfl), (fun _ _ => rfl), (fun _ _ => rfl), (zK14_up ⟨hi.1, by grind⟩), (fun _ _ => rfl), (fun _ _ => rfl), (fun _ _ => rfl)⟩⟩
theorem zTS_alw {cF cc cN inp : Int32} {nF nN stp mst prc al made amt op fx jn lets : Nat → Int32} {mF mN mNF mNN mS mM mC mW mCst mO m1 m2 mX mG : Nat → Int32} {mA mB : Nat → Int64} {i x : Int32} (h : zTS cF cc cN inp nF nN stp mst prc al made amt op fx jn lets mF mN mNF mNN mS mM mC mW mCst mO m1 m2 mX mG mA mB) (hi : 0 ≤ i ∧ i < cN) (hx : 0 ≤ x ∧ x ≤ 1000000) : zTS cF cc cN inp nF nN stp mst prc (upd al i.toNatClampNeg x) made amt op fx jn lets mF mN mNF mNN mS mM mC (upd mW (14 + i).toNatClampNeg x) mCst mO m1 m2 mX mG mA mB ∧ zFR mF mN mNF mNN mS mM mC mW mCst mO m1 m2 mX mG mA mB mF mN mNF mNN mS mM mC (upd mW (14 + i).toNatClampNeg x) mCst mO m1 m2 mX mG mA mB := by
  obtain ⟨hF, hN, hC, hI, hfm, hnu, hgr⟩ := h
  exact ⟨⟨hF, hN, hC, hI, hfm, zNu_allow ⟨by decide, by decide⟩ hN.2.2 hi hx hnu, hgr⟩, ⟨rfl, rfl, (fun _ _ => rfl), (fun _ _ => rfl), (fun _ _ => rfl), (fun _ _ => rfl), (fun _ _ => rfl), (zK14_up ⟨hi.1, by grind⟩), rfl, (fun _ _ => rfl), (fun _ _ => rfl), (fun _ _ => rfl), (fun _ _ => rfl), (fun _ _ => rfl), (fun _ _ => rfl), (fun _ _ => rfl)⟩⟩
theorem zTS_grp {cF cc cN inp : Int32} {nF nN stp mst prc al made amt op fx jn lets : Nat → Int32} {mF mN mNF mNN mS mM mC mW mCst mO m1 m2 mX mG : Nat → Int32} {mA mB : Nat → Int64} {J G : Nat → Int32} {i j : Int32} (h : zTS cF cc cN inp nF nN stp mst prc al made amt op fx jn lets mF mN mNF mNN mS mM mC mW mCst mO m1 m2 mX mG mA mB) (hi : 0 ≤ i ∧ i < cN) (hj : 0 ≤ j ∧ j < cN) (hJ : ∀ x : Int32, 0 ≤ x → x < cN → J x.toNatClampNeg = if jn x.toNatClampNeg = jn j.toNatClampNeg then jn i.toNatClampNeg else jn x.toNatClampNeg) (hG : zMg cN i j mG G) : zTS cF cc cN inp nF nN stp mst prc al made amt op fx J lets mF mN mNF mNN mS mM mC mW mCst mO m1 m2 mX G mA mB ∧ zFR mF mN mNF mNN mS mM mC mW mCst mO m1 m2 mX mG mA mB mF mN mNF mNN mS mM mC mW mCst mO m1 m2 mX G mA mB := by
  obtain ⟨hF, hN, hC, hI, hfm, hnu, hgr⟩ := h
  exact ⟨⟨hF, hN, hC, hI, hfm, hnu, zGr_merge hN.2.2 hi hj hgr hJ hG⟩, ⟨rfl, rfl, (fun _ _ => rfl), (fun _ _ => rfl), (fun _ _ => rfl), (fun _ _ => rfl), (fun _ _ => rfl), (fun _ _ => rfl), rfl, (fun _ _ => rfl), (fun _ _ => rfl), (fun _ _ => rfl), (fun _ _ => rfl), hG.2, (fun _ _ => rfl), (fun _ _ => rfl)⟩⟩
/-! which words begin a STATEMENT, and when there is no more room -/
noncomputable def zBeg (o : Int32) : Prop := o = 0 ∨ o = 4 ∨ o = 5 ∨ o = 6 ∨ o = 9 ∨ o = 10 ∨ o = 11
theorem zStarts_y {o : Int32} (h : zBeg o) : fn_X5_startsStatement o = some 1 ∧ fn_X12_isBeginning o = some 1 := by
  rcases h with rfl | rfl | rfl | rfl | rfl | rfl | rfl <;> exact ⟨by decide +kernel, by decide +kernel⟩
theorem zStarts_n {o : Int32} (h : ¬ zBeg o) : fn_X5_startsStatement o = some 0 ∧ fn_X12_isBeginning o = some 0 := by
  unfold zBeg at h
  unfold fn_X5_startsStatement fn_X12_isBeginning
  grind
noncomputable def zFull (p o cF cN : Int32) : Prop := p = 40 ∨ o = 0 ∧ cF = 4 ∨ (o = 5 ∨ o = 6) ∧ cN = 14
theorem zIsFull {o cF cN : Int32} (hF : 0 ≤ cF ∧ cF ≤ 4) (hN : 0 ≤ cN ∧ cN ≤ 14) : fn_X5_isFull o cF cN = some (if o = 0 ∧ cF = 4 ∨ (o = 5 ∨ o = 6) ∧ cN = 14 then 1 else 0) := by
  unfold fn_X5_isFull zj
  dsimp only
  grind
/-! the sign behind a STATEMENT -/
set_option maxRecDepth 100000 in
noncomputable def zJ5 (n : Int32) (f own : Nat → Int32) (s_20 : Int32 × Int32 × Int32 × Int32 × Int32 × Int32 × Int32 × Int32 × Int32 × Int32 × Int32 × Int32 × Int32 × (Nat → Int32) × (Nat → Int32) × (Nat → Int32) × (Nat → Int32) × (Nat → Int32) × (Nat → Int32) × (Nat → Int32) × (Nat → Int32) × (Nat → Int32) × (Nat → Int32) × (Nat → Int32) × (Nat → Int32)) : Option (Int32 × Int32 × Int32 × Int32 × Int32 × Int32 × Int32 × Int32 × Int32 × Int32 × Int32 × Int32 × Int32 × (Nat → Int32) × (Nat → Int32) × (Nat → Int32) × (Nat → Int32) × (Nat → Int32) × (Nat → Int32) × (Nat → Int32) × (Nat → Int32) × (Nat → Int32) × (Nat → Int32) × (Nat → Int32) × (Nat → Int32)) := (if s_20.1 = 0 then (some ((0 : Int32), s_20.2.1, s_20.2.2.1, s_20.2.2.2.1, s_20.2.2.2.2.2.2.1, s_20.2.2.2.2.2.2.2.1, s_20.2.2.2.2.2.2.2.2.1, s_20.2.2.2.2.2.2.2.2.2.1, s_20.2.2.2.2.2.2.2.2.2.2.1, s_20.2.2.2.2.1, s_20.2.2.2.2.2.1, s_20.2.2.2.2.2.2.2.2.2.2.2.1, s_20.2.2.2.2.2.2.2.2.2.2.2.2.1, s_20.2.2.2.2.2.2.2.2.2.2.2.2.2.1, s_20.2.2.2.2.2.2.2.2.2.2.2.2.2.2.2.2.2.1, s_20.2.2.2.2.2.2.2.2.2.2.2.2.2.2.1, s_20.2.2.2.2.2.2.2.2.2.2.2.2.2.2.2.1, s_20.2.2.2.2.2.2.2.2.2.2.2.2.2.2.2.2.1, s_20.2.2.2.2.2.2.2.2.2.2.2.2.2.2.2.2.2.2.2.2.1, s_20.2.2.2.2.2.2.2.2.2.2.2.2.2.2.2.2.2.2.2.2.2.2.2.1, s_20.2.2.2.2.2.2.2.2.2.2.2.2.2.2.2.2.2.2.2.2.2.2.2.2, s_20.2.2.2.2.2.2.2.2.2.2.2.2.2.2.2.2.2.2.1, s_20.2.2.2.2.2.2.2.2.2.2.2.2.2.2.2.2.2.2.2.1, s_20.2.2.2.2.2.2.2.2.2.2.2.2.2.2.2.2.2.2.2.2.2.2.1, s_20.2.2.2.2.2.2.2.2.2.2.2.2.2.2.2.2.2.2.2.2.2.1)) else (zb (fn_X5_readSign 59 s_20.2.2.1 s_20.2.2.2.1 n s_20.2.2.2.2.2.2.1 s_20.2.2.2.2.2.2.2.1 s_20.2.2.2.2.2.2.2.2.1 s_20.2.2.2.2.2.2.2.2.2.1 s_20.2.2.2.2.2.2.2.2.2.2.1 f own) (fun o_22 => (if o_22.1 = 0 then (some ((0 : Int32), s_20.2.1, o_22.2.1, o_22.2.2.1, o_22.2.2.2.1, o_22.2.2.2.2.1, o_22.2.2.2.2.2.1, o_22.2.2.2.2.2.2.1, o_22.2.2.2.2.2.2.2, s_20.2.2.2.2.1, s_20.2.2.2.2.2.1, s_20.2.2.2.2.2.2.2.2.2.2.2.1, s_20.2.2.2.2.2.2.2.2.2.2.2.2.1, s_20.2.2.2.2.2.2.2.2.2.2.2.2.2.1, s_20.2.2.2.2.2.2.2.2.2.2.2.2.2.2.2.2.2.1, s_20.2.2.2.2.2.2.2.2.2.2.2.2.2.2.1, s_20.2.2.2.2.2.2.2.2.2.2.2.2.2.2.2.1, s_20.2.2.2.2.2.2.2.2.2.2.2.2.2.2.2.2.1, s_20.2.2.2.2.2.2.2.2.2.2.2.2.2.2.2.2.2.2.2.2.1, s_20.2.2.2.2.2.2.2.2.2.2.2.2.2.2.2.2.2.2.2.2.2.2.2.1, s_20.2.2.2.2.2.2.2.2.2.2.2.2.2.2.2.2.2.2.2.2.2.2.2.2, s_20.2.2.2.2.2.2.2.2.2.2.2.2.2.2.2.2.2.2.1, s_20.2.2.2.2.2.2.2.2.2.2.2.2.2.2.2.2.2.2.2.1, s_20.2.2.2.2.2.2.2.2.2.2.2.2.2.2.2.2.2.2.2.2.2.2.1, s_20.2.2.2.2.2.2.2.2.2.2.2.2.2.2.2.2.2.2.2.2.2.1)) else (some ((1 : Int32), s_20.2.1, o_22.2.1, o_22.2.2.1, o_22.2.2.2.1, o_22.2.2.2.2.1, o_22.2.2.2.2.2.1, o_22.2.2.2.2.2.2.1, o_22.2.2.2.2.2.2.2, s_20.2.2.2.2.1, s_20.2.2.2.2.2.1, s_20.2.2.2.2.2.2.2.2.2.2.2.1, s_20.2.2.2.2.2.2.2.2.2.2.2.2.1, s_20.2.2.2.2.2.2.2.2.2.2.2.2.2.1, s_20.2.2.2.2.2.2.2.2.2.2.2.2.2.2.2.2.2.1, s_20.2.2.2.2.2.2.2.2.2.2.2.2.2.2.1, s_20.2.2.2.2.2.2.2.2.2.2.2.2.2.2.2.1, s_20.2.2.2.2.2.2.2.2.2.2.2.2.2.2.2.2.1, s_20.2.2.2.2.2.2.2.2.2.2.2.2.2.2.2.2.2.2.2.2.1, s_20.2.2.2.2.2.2.2.2.2.2.2.2.2.2.2.2.2.2.2.2.2.2.2.1, s_20.2.2.2.2.2.2.2.2.2.2.2.2.2.2.2.2.2.2.2.2.2.2.2.2, s_20.2.2.2.2.2.2.2.2.2.2.2.2.2.2.2.2.2.2.1, s_20.2.2.2.2.2.2.2.2.2.2.2.2.2.2.2.2.2.2.2.1, s_20.2.2.2.2.2.2.2.2.2.2.2.2.2.2.2.2.2.2.2.2.2.2.1, s_20.2.2.2.2.2.2.2.2.2.2.2.2.2.2.2.2.2.2.2.2.2.1))))))
theorem zSemi {n a e k s v o got fk fp wa : Int32} {f g own : Nat → Int32} {cF cc cN inp : Int32} {nF nN stp mst prc al made amt op fx jn lets : Nat → Int32} (hn : n ≤ 1200) (ha : 0 ≤ a ∧ a ≤ n) (ht : zTp f g) (ho : ∀ w : Nat, w < 13 → own w = zOwT w) (T : zTok n f g a e k s v o) :
    zw (zJ5 n f own (1, got, fk, fp, cF, cc, e, k, s, v, o, cN, inp, nF, stp, mst, prc, nN, op, fx, al, lets, jn, made, amt)) (fun r => zw (fn_X12_mark 59 n a 0 wa g) (fun q => (∃ y, r = (1, got, fk, fp, y.1, y.2.1, y.2.2.1, y.2.2.2.1, y.2.2.2.2, cF, cc, cN, inp, nF, nN, stp, mst, prc, al, made, amt, op, fx, jn, lets) ∧ q = (e, 0, wa) ∧ zNext n f g e y) ∨ zStop r.1 r.2.2.1 r.2.2.2.1 q.2.1 q.2.2)) := by
  unfold zJ5
  dsimp only
  rw [if_neg (by decide)]
  refine zw_zb0 (zSignR (wa := wa) hn ha ht ho T ⟨by decide +kernel, by decide, by decide⟩) (fun r hr => ?_)
  obtain ⟨q, eq, hq⟩ := hr
  rcases hq with ⟨y, rfl, rfl, hy⟩ | hs
  · dsimp only
    rw [if_neg (by decide)]
    exact zw_some ⟨_, eq, Or.inl ⟨y, rfl, rfl, hy⟩⟩
  · rw [if_pos hs.1]
    exact zw_some ⟨_, eq, Or.inr ⟨rfl, hs.2⟩⟩
theorem zSemi_0 {n : Int32} {f own : Nat → Int32} {s_20 : Int32 × Int32 × Int32 × Int32 × Int32 × Int32 × Int32 × Int32 × Int32 × Int32 × Int32 × Int32 × Int32 × (Nat → Int32) × (Nat → Int32) × (Nat → Int32) × (Nat → Int32) × (Nat → Int32) × (Nat → Int32) × (Nat → Int32) × (Nat → Int32) × (Nat → Int32) × (Nat → Int32) × (Nat → Int32) × (Nat → Int32)} (h : s_20.1 = 0) : zw (zJ5 n f own s_20) (fun r => r.1 = 0 ∧ r.2.2.1 = s_20.2.2.1 ∧ r.2.2.2.1 = s_20.2.2.2.1) := by
  unfold zJ5
  rw [if_pos h]
  exact zw_some ⟨rfl, rfl, rfl⟩
noncomputable def zSR (n : Int32) (f g : Nat → Int32) (fk fp wa : Int32) (mF mN mNF mNN mS mM mC mW mCst mO m1 m2 mX mG : Nat → Int32) (mA mB : Nat → Int64) (r : Int32 × Int32 × Int32 × Int32 × Int32 × Int32 × Int32 × Int32 × Int32 × Int32 × Int32 × Int32 × Int32 × (Nat → Int32) × (Nat → Int32) × (Nat → Int32) × (Nat → Int32) × (Nat → Int32) × (Nat → Int32) × (Nat → Int32) × (Nat → Int32) × (Nat → Int32) × (Nat → Int32) × (Nat → Int32) × (Nat → Int32)) (q : Int64 × Int32 × Int32 × Int32 × Int32 × (Nat → Int32) × (Nat → Int32) × (Nat → Int32) × (Nat → Int32) × (Nat → Int32) × (Nat → Int32) × (Nat → Int32) × (Nat → Int32) × (Nat → Int32) × (Nat → Int32) × (Nat → Int32) × (Nat → Int32) × (Nat → Int32) × (Nat → Int32) × (Nat → Int64) × (Nat → Int64)) : Prop := (∃ g' y z b' wv C M, r = (1, g', fk, fp, y.1, y.2.1, y.2.2.1, y.2.2.2.1, y.2.2.2.2, C) ∧ q = (wv, z, b', 0, wa, M) ∧ zNext n f g z y ∧ zTS C.1 C.2.1 C.2.2.1 C.2.2.2.1 C.2.2.2.2.1 C.2.2.2.2.2.1 C.2.2.2.2.2.2.1 C.2.2.2.2.2.2.2.1 C.2.2.2.2.2.2.2.2.1 C.2.2.2.2.2.2.2.2.2.1 C.2.2.2.2.2.2.2.2.2.2.1 C.2.2.2.2.2.2.2.2.2.2.2.1 C.2.2.2.2.2.2.2.2.2.2.2.2.1 C.2.2.2.2.2.2.2.2.2.2.2.2.2.1 C.2.2.2.2.2.2.2.2.2.2.2.2.2.2.1 C.2.2.2.2.2.2.2.2.2.2.2.2.2.2.2 M.1 M.2.1 M.2.2.1 M.2.2.2.1 M.2.2.2.2.1 M.2.2.2.2.2.1 M.2.2.2.2.2.2.1 M.2.2.2.2.2.2.2.1 M.2.2.2.2.2.2.2.2.1 M.2.2.2.2.2.2.2.2.2.1 M.2.2.2.2.2.2.2.2.2.2.1 M.2.2.2.2.2.2.2.2.2.2.2.1 M.2.2.2.2.2.2.2.2.2.2.2.2.1 M.2.2.2.2.2.2.2.2.2.2.2.2.2.1 M.2.2.2.2.2.2.2.2.2.2.2.2.2.2.1 M.2.2.2.2.2.2.2.2.2.2.2.2.2.2.2 ∧ zFR mF mN mNF mNN mS mM mC mW mCst mO m1 m2 mX mG mA mB M.1 M.2.1 M.2.2.1 M.2.2.2.1 M.2.2.2.2.1 M.2.2.2.2.2.1 M.2.2.2.2.2.2.1 M.2.2.2.2.2.2.2.1 M.2.2.2.2.2.2.2.2.1 M.2.2.2.2.2.2.2.2.2.1 M.2.2.2.2.2.2.2.2.2.2.1 M.2.2.2.2.2.2.2.2.2.2.2.1 M.2.2.2.2.2.2.2.2.2.2.2.2.1 M.2.2.2.2.2.2.2.2.2.2.2.2.2.1 M.2.2.2.2.2.2.2.2.2.2.2.2.2.2.1 M.2.2.2.2.2.2.2.2.2.2.2.2.2.2.2) ∨ zStop r.1 r.2.2.1 r.2.2.2.1 q.2.2.2.1 q.2.2.2.2.1 ∧ zFR mF mN mNF mNN mS mM mC mW mCst mO m1 m2 mX mG mA mB q.2.2.2.2.2.1 q.2.2.2.2.2.2.1 q.2.2.2.2.2.2.2.1 q.2.2.2.2.2.2.2.2.1 q.2.2.2.2.2.2.2.2.2.1 q.2.2.2.2.2.2.2.2.2.2.1 q.2.2.2.2.2.2.2.2.2.2.2.1 q.2.2.2.2.2.2.2.2.2.2.2.2.1 q.2.2.2.2.2.2.2.2.2.2.2.2.2.1 q.2.2.2.2.2.2.2.2.2.2.2.2.2.2.1 q.2.2.2.2.2.2.2.2.2.2.2.2.2.2.2.1 q.2.2.2.2.2.2.2.2.2.2.2.2.2.2.2.2.1 q.2.2.2.2.2.2.2.2.2.2.2.2.2.2.2.2.2.1 q.2.2.2.2.2.2.2.2.2.2.2.2.2.2.2.2.2.2.1 q.2.2.2.2.2.2.2.2.2.2.2.2.2.2.2.2.2.2.2.1 q.2.2.2.2.2.2.2.2.2.2.2.2.2.2.2.2.2.2.2.2
-- the kinds of STATEMENT
set_option maxRecDepth 100000 in
theorem zSt_fmt {n a e k s v o got fk fp bg wa : Int32} {wv0 : Int64} {f g own tab : Nat → Int32} {cF cc cN inp : Int32} {nF nN stp mst prc al made amt op fx jn lets : Nat → Int32} {mF mN mNF mNN mS mM mC mW mCst mO m1 m2 mX mG : Nat → Int32} {mA mB : Nat → Int64} (hn : n ≤ 1200) (ha : 0 ≤ a ∧ a ≤ n) (ht : zTp f g) (ho : ∀ w : Nat, w < 13 → own w = zOwT w) (hT : (∀ k : Nat, k < 71 → tab k = zTab k)) (T : zTok n f g a e k s v o) (h : zTS cF cc cN inp nF nN stp mst prc al made amt op fx jn lets mF mN mNF mNN mS mM mC mW mCst mO m1 m2 mX mG mA mB) (hc : cF < 4) :
    zw (zb (fn_X5_readFormat got fk fp n e k s v o cF nF cN nN f own stp mst prc) (fun o_1 => (zJ5 n f own (o_1.1, o_1.2.1, o_1.2.2.1, o_1.2.2.2.1, o_1.2.2.2.2.2.2.2.2.2.1, cc, o_1.2.2.2.2.1, o_1.2.2.2.2.2.1, o_1.2.2.2.2.2.2.1, o_1.2.2.2.2.2.2.2.1, o_1.2.2.2.2.2.2.2.2.1, cN, inp, o_1.2.2.2.2.2.2.2.2.2.2.1, o_1.2.2.2.2.2.2.2.2.2.2.2.1, o_1.2.2.2.2.2.2.2.2.2.2.2.2.1, o_1.2.2.2.2.2.2.2.2.2.2.2.2.2, nN, op, fx, al, lets, jn, made, amt)))) (fun r => zw (zb (fn_X12_readsFormat n a bg 0 wa 1 g tab mF mNF mN mNN mS mM mC) (fun o_1 => (zb (fn_X12_mark 59 n o_1.1 o_1.2.2.1 o_1.2.2.2.1 g) (fun o_2 => (some (wv0, o_2.1, o_1.2.1, o_2.2.1, o_2.2.2, o_1.2.2.2.2.1, mN, o_1.2.2.2.2.2.1, mNN, o_1.2.2.2.2.2.2.1, o_1.2.2.2.2.2.2.2.1, o_1.2.2.2.2.2.2.2.2, mW, mCst, mO, m1, m2, mX, mG, mA, mB)))))) (fun q => zSR n f g fk fp wa mF mN mNF mNN mS mM mC mW mCst mO m1 m2 mX mG mA mB r q)) := by
  have h0 := h
  obtain ⟨hF, hN, hC, hI, hfm, hnu, hgr⟩ := h
  obtain ⟨r1, hr1, q1, hq1, h1⟩ := zFormat (got := got) (fk := fk) (fp := fp) (bg := bg) (wa := wa) (stp := stp) (mst := mst) (prc := prc) (mS := mS) (mM := mM) (mC := mC) hn ha ht ho hT T ⟨hF.1, hF.2.1, hc⟩ hN (zNR_F hfm) (zNR_N hnu)
  rw [hr1, hq1]
  simp only [zb_some]
  rcases h1 with ⟨g', e', k', s', v', o', z, b', c, m, x1, x2, x3, rfl, rfl, hnm, h1, h2, h3, ha1, T1⟩ | ⟨hs, hrow⟩
  · dsimp only at ha1 T1 ⊢
    obtain ⟨u1, u2⟩ := zTS_fmt h0 hc hnm h1 h2 h3
    obtain ⟨r2, hr2, q2, hq2, h2⟩ := zSemi (got := g') (fk := fk) (fp := fp) (wa := wa) hn ha1 ht ho T1
    rw [hr2, hq2]
    simp only [zb_some]
    rcases h2 with ⟨y', rfl, rfl, hy⟩ | hs
    · exact zw_some (zw_some (Or.inl ⟨_, y', _, _, _, _, _, rfl, rfl, hy, u1, u2⟩))
    · exact zw_some (zw_some (Or.inr ⟨hs, u2⟩))
  · obtain ⟨r2, hr2, h2, h3, h4⟩ := zSemi_0 (n := n) (f := f) (own := own) (s_20 := (r1.1, r1.2.1, r1.2.2.1, r1.2.2.2.1, r1.2.2.2.2.2.2.2.2.2.1, cc, r1.2.2.2.2.1, r1.2.2.2.2.2.1, r1.2.2.2.2.2.2.1, r1.2.2.2.2.2.2.2.1, r1.2.2.2.2.2.2.2.2.1, cN, inp, r1.2.2.2.2.2.2.2.2.2.2.1, r1.2.2.2.2.2.2.2.2.2.2.2.1, r1.2.2.2.2.2.2.2.2.2.2.2.2.1, r1.2.2.2.2.2.2.2.2.2.2.2.2.2, nN, op, fx, al, lets, jn, made, amt)) hs.1
    rw [hr2]
    rw [zMark_n hs.2.1]
    simp only [zb_some]
    refine zw_some (zw_some (Or.inr ⟨⟨h2, hs.2.1, h3.trans hs.2.2.1, h4.trans hs.2.2.2⟩, ?_⟩))
    have hrow := hrow
    have e0 := congrArg (fun t => t.1) hrow
    have e1 := congrArg (fun t => t.2.1) hrow
    have e2 := congrArg (fun t => t.2.2.1) hrow
    have e3 := congrArg (fun t => t.2.2.2.1) hrow
    have e4 := congrArg (fun t => t.2.2.2.2) hrow
    dsimp only at e0 e1 e2 e3 e4 ⊢
    rw [e0, e1, e2, e3, e4]
    exact zFR_rf
set_option maxRecDepth 100000 in
theorem zSt_cst {n a e k s v o got fk fp bg wa : Int32} {wv0 : Int64} {f g own tab : Nat → Int32} {cF cc cN inp : Int32} {nF nN stp mst prc al made amt op fx jn lets : Nat → Int32} {mF mN mNF mNN mS mM mC mW mCst mO m1 m2 mX mG : Nat → Int32} {mA mB : Nat → Int64} (hn : n ≤ 1200) (ha : 0 ≤ a ∧ a ≤ n) (ht : zTp f g) (ho : ∀ w : Nat, w < 13 → own w = zOwT w) (hT : (∀ k : Nat, k < 71 → tab k = zTab k)) (T : zTok n f g a e k s v o) (h : zTS cF cc cN inp nF nN stp mst prc al made amt op fx jn lets mF mN mNF mNN mS mM mC mW mCst mO m1 m2 mX mG mA mB) :
    zw (zb (fn_X5_readCast got fk fp n e k s v o f own cc) (fun o_1 => (zJ5 n f own (o_1.1, o_1.2.1, o_1.2.2.1, o_1.2.2.2.1, cF, o_1.2.2.2.2.2.2.2.2.2, o_1.2.2.2.2.1, o_1.2.2.2.2.2.1, o_1.2.2.2.2.2.2.1, o_1.2.2.2.2.2.2.2.1, o_1.2.2.2.2.2.2.2.2.1, cN, inp, nF, stp, mst, prc, nN, op, fx, al, lets, jn, made, amt)))) (fun r => zw (zb (fn_X12_number (0 : Int64) (999 : Int64) n a bg 0 wa g) (fun o_1 => (zb (fn_X12_goesWell o_1.2.2.2.1) (fun o_67 => (if o_67 = 0 then (zg 1 2 (zb (fn_X12_mark 59 n o_1.2.1 o_1.2.2.2.1 o_1.2.2.2.2 g) (fun o_2 => (some (wv0, o_2.1, o_1.2.2.1, o_2.2.1, o_2.2.2, mF, mN, mNF, mNN, mS, mM, mC, mW, (upd mCst (1 : Int32).toNatClampNeg (mCst (1 : Int32).toNatClampNeg)), mO, m1, m2, mX, mG, mA, mB))))) else (zg 1 2 (zb (fn_X12_mark 59 n o_1.2.1 o_1.2.2.2.1 o_1.2.2.2.2 g) (fun o_2 => (some (wv0, o_2.1, o_1.2.2.1, o_2.2.1, o_2.2.2, mF, mN, mNF, mNN, mS, mM, mC, mW, (upd mCst (1 : Int32).toNatClampNeg o_1.1.toInt32), mO, m1, m2, mX, mG, mA, mB)))))))))) (fun q => zSR n f g fk fp wa mF mN mNF mNN mS mM mC mW mCst mO m1 m2 mX mG mA mB r q)) := by
  have h0 := h
  obtain ⟨hF, hN, hC, hI, hfm, hnu, hgr⟩ := h
  unfold fn_X5_readCast
  obtain ⟨r1, hr1, q1, hq1, h1⟩ := zNumR (lo := 0) (hi := 999) (got := got) (fk := fk) (fp := fp) (bg := bg) (wa := wa) (lo64 := 0) (hi64 := 999) (by decide +kernel) (by decide +kernel) hn ha ht ho T
  rw [hr1, hq1]
  simp only [zb_some]
  have hg2 : ∀ {ρ : Type} (e : Option ρ), zg 1 2 e = e := fun e => zg_in 2 (by decide +kernel) ⟨by decide, by decide⟩ e
  rcases h1 with ⟨y, rfl, rfl, l1, l2, ha1, T1⟩ | hs
  · dsimp only at ha1 T1 ⊢
    rw [if_neg (by decide), zGw_0]
    simp only [zb_some]
    rw [if_neg (by decide), hg2]
    obtain ⟨u1, u2⟩ := zTS_cast h0 ⟨l1, l2⟩
    obtain ⟨r2, hr2, q2, hq2, h2⟩ := zSemi (got := v) (fk := fk) (fp := fp) (wa := wa) hn ha1 ht ho T1
    rw [hr2, hq2]
    simp only [zb_some]
    rw [show v.toInt64.toInt32 = v from z64_32 v, zn01.2]
    rcases h2 with ⟨y', rfl, rfl, hy⟩ | hs
    · exact zw_some (zw_some (Or.inl ⟨_, y', _, _, _, _, _, rfl, rfl, hy, u1, u2⟩))
    · exact zw_some (zw_some (Or.inr ⟨hs, u2⟩))
  · rw [if_pos hs.1, zGw_n hs.2.1]
    simp only [zb_some]
    rw [if_pos trivial, hg2, zMark_n hs.2.1]
    simp only [zb_some]
    obtain ⟨r2, hr2, h2, h3, h4⟩ := zSemi_0 (n := n) (f := f) (own := own) (s_20 := (0, r1.2.1, r1.2.2.1, r1.2.2.2.1, cF, cc, r1.2.2.2.2.1, r1.2.2.2.2.2.1, r1.2.2.2.2.2.2.1, r1.2.2.2.2.2.2.2.1, r1.2.2.2.2.2.2.2.2, cN, inp, nF, stp, mst, prc, nN, op, fx, al, lets, jn, made, amt)) rfl
    rw [hr2]
    refine zw_some (zw_some (Or.inr ⟨⟨h2, hs.2.1, h3.trans hs.2.2.1, h4.trans hs.2.2.2⟩, ?_⟩))
    rw [zn01.2]
    have eu : upd mCst 1 (mCst 1) = mCst := by
      funext i
      show (if i = 1 then mCst 1 else mCst i) = mCst i
      split
      · rename_i q; rw [q]
      · rfl
    dsimp only
    rw [eu]
    exact zFR_rf
set_option maxRecDepth 100000 in
theorem zSt_box {n a e k s v o got fk fp bg wa : Int32} {wv0 : Int64} {f g own tab : Nat → Int32} {cF cc cN inp : Int32} {nF nN stp mst prc al made amt op fx jn lets : Nat → Int32} {mF mN mNF mNN mS mM mC mW mCst mO m1 m2 mX mG : Nat → Int32} {mA mB : Nat → Int64} (hn : n ≤ 1200) (ha : 0 ≤ a ∧ a ≤ n) (ht : zTp f g) (ho : ∀ w : Nat, w < 13 → own w = zOwT w) (hT : (∀ k : Nat, k < 71 → tab k = zTab k)) (T : zTok n f g a e k s v o) (h : zTS cF cc cN inp nF nN stp mst prc al made amt op fx jn lets mF mN mNF mNN mS mM mC mW mCst mO m1 m2 mX mG mA mB) (hc : cN < 14) :
    zw (zb (fn_X5_readBox got fk fp n e k s v o cF nF cN inp nN f own made amt op fx al jn lets) (fun o_1 => (zJ5 n f own (o_1.1, o_1.2.1, o_1.2.2.1, o_1.2.2.2.1, cF, cc, o_1.2.2.2.2.1, o_1.2.2.2.2.2.1, o_1.2.2.2.2.2.2.1, o_1.2.2.2.2.2.2.2.1, o_1.2.2.2.2.2.2.2.2.1, o_1.2.2.2.2.2.2.2.2.2.1, o_1.2.2.2.2.2.2.2.2.2.2.1, nF, stp, mst, prc, o_1.2.2.2.2.2.2.2.2.2.2.2.1, o_1.2.2.2.2.2.2.2.2.2.2.2.2.2.2.1, o_1.2.2.2.2.2.2.2.2.2.2.2.2.2.2.2.1, o_1.2.2.2.2.2.2.2.2.2.2.2.2.2.2.2.2.1, o_1.2.2.2.2.2.2.2.2.2.2.2.2.2.2.2.2.2.2, o_1.2.2.2.2.2.2.2.2.2.2.2.2.2.2.2.2.2.1, o_1.2.2.2.2.2.2.2.2.2.2.2.2.1, o_1.2.2.2.2.2.2.2.2.2.2.2.2.2.1)))) (fun r => zw (zb (fn_X12_readsInput n a bg 0 wa 1 g tab mF mNF mN mNN mO m1 m2 mX mW mG mA mB) (fun o_1 => (zb (fn_X12_mark 59 n o_1.1 o_1.2.2.1 o_1.2.2.2.1 g) (fun o_2 => (some (wv0, o_2.1, o_1.2.1, o_2.2.1, o_2.2.2, mF, o_1.2.2.2.2.1, mNF, o_1.2.2.2.2.2.1, mS, mM, mC, o_1.2.2.2.2.2.2.2.2.2.2.1, mCst, o_1.2.2.2.2.2.2.1, o_1.2.2.2.2.2.2.2.1, o_1.2.2.2.2.2.2.2.2.1, o_1.2.2.2.2.2.2.2.2.2.1, o_1.2.2.2.2.2.2.2.2.2.2.2.1, o_1.2.2.2.2.2.2.2.2.2.2.2.2.1, o_1.2.2.2.2.2.2.2.2.2.2.2.2.2)))))) (fun q => zSR n f g fk fp wa mF mN mNF mNN mS mM mC mW mCst mO m1 m2 mX mG mA mB r q)) := by
  have h0 := h
  obtain ⟨hF, hN, hC, hI, hfm, hnu, hgr⟩ := h
  obtain ⟨r1, hr1, q1, hq1, h1⟩ := zBox (got := got) (fk := fk) (fp := fp) (bg := bg) (wa := wa) (inp := inp) (made := made) (amt := amt) (op := op) (fx := fx) (al := al) (jn := jn) (lets := lets) (mO := mO) (m1 := m1) (m2 := m2) (mX := mX) (mW := mW) (mG := mG) (mA := mA) (mB := mB) hn ha ht ho hT T hF ⟨hN.1, hN.2.1, hc⟩ (zNR_F hfm) (zNR_N hnu)
  rw [hr1, hq1]
  simp only [zb_some]
  rcases h1 with ⟨g', e', k', s', v', o', z, b', c, m, x, y, rfl, rfl, hnm, l1, l2, l3, ha1, T1⟩ | ⟨hs, hrow⟩
  · dsimp only at ha1 T1 ⊢
    obtain ⟨u1, u2⟩ := zTS_box h0 hc hnm l1 l2 l3
    obtain ⟨r2, hr2, q2, hq2, h2⟩ := zSemi (got := g') (fk := fk) (fp := fp) (wa := wa) hn ha1 ht ho T1
    rw [hr2, hq2]
    simp only [zb_some]
    rcases h2 with ⟨y', rfl, rfl, hy⟩ | hs
    · exact zw_some (zw_some (Or.inl ⟨_, y', _, _, _, _, _, rfl, rfl, hy, u1, u2⟩))
    · exact zw_some (zw_some (Or.inr ⟨hs, u2⟩))
  · obtain ⟨r2, hr2, h2, h3, h4⟩ := zSemi_0 (n := n) (f := f) (own := own) (s_20 := (r1.1, r1.2.1, r1.2.2.1, r1.2.2.2.1, cF, cc, r1.2.2.2.2.1, r1.2.2.2.2.2.1, r1.2.2.2.2.2.2.1, r1.2.2.2.2.2.2.2.1, r1.2.2.2.2.2.2.2.2.1, r1.2.2.2.2.2.2.2.2.2.1, r1.2.2.2.2.2.2.2.2.2.2.1, nF, stp, mst, prc, r1.2.2.2.2.2.2.2.2.2.2.2.1, r1.2.2.2.2.2.2.2.2.2.2.2.2.2.2.1, r1.2.2.2.2.2.2.2.2.2.2.2.2.2.2.2.1, r1.2.2.2.2.2.2.2.2.2.2.2.2.2.2.2.2.1, r1.2.2.2.2.2.2.2.2.2.2.2.2.2.2.2.2.2.2, r1.2.2.2.2.2.2.2.2.2.2.2.2.2.2.2.2.2.1, r1.2.2.2.2.2.2.2.2.2.2.2.2.1, r1.2.2.2.2.2.2.2.2.2.2.2.2.2.1)) hs.1
    rw [hr2]
    rw [zMark_n hs.2.1]
    simp only [zb_some]
    refine zw_some (zw_some (Or.inr ⟨⟨h2, hs.2.1, h3.trans hs.2.2.1, h4.trans hs.2.2.2⟩, ?_⟩))
    have hrow := hrow
    have e0 := congrArg (fun t => t.1) hrow
    have e1 := congrArg (fun t => t.2.1) hrow
    have e2 := congrArg (fun t => t.2.2.1) hrow
    have e3 := congrArg (fun t => t.2.2.2.1) hrow
    have e4 := congrArg (fun t => t.2.2.2.2.1) hrow
    have e5 := congrArg (fun t => t.2.2.2.2.2.1) hrow
    have e6 := congrArg (fun t => t.2.2.2.2.2.2.1) hrow
    have e7 := congrArg (fun t => t.2.2.2.2.2.2.2.1) hrow
    have e8 := congrArg (fun t => t.2.2.2.2.2.2.2.2.1) hrow
    have e9 := congrArg (fun t => t.2.2.2.2.2.2.2.2.2) hrow
    dsimp only at e0 e1 e2 e3 e4 e5 e6 e7 e8 e9 ⊢
    rw [e0, e1, e2, e3, e4, e5, e6, e7, e8, e9]
    exact zFR_rf
set_option maxRecDepth 100000 in
theorem zSt_let {n a e k s v o got fk fp bg wa : Int32} {wv0 : Int64} {f g own tab : Nat → Int32} {cF cc cN inp : Int32} {nF nN stp mst prc al made amt op fx jn lets : Nat → Int32} {mF mN mNF mNN mS mM mC mW mCst mO m1 m2 mX mG : Nat → Int32} {mA mB : Nat → Int64} (hn : n ≤ 1200) (ha : 0 ≤ a ∧ a ≤ n) (ht : zTp f g) (ho : ∀ w : Nat, w < 13 → own w = zOwT w) (hT : (∀ k : Nat, k < 71 → tab k = zTab k)) (T : zTok n f g a e k s v o) (h : zTS cF cc cN inp nF nN stp mst prc al made amt op fx jn lets mF mN mNF mNN mS mM mC mW mCst mO m1 m2 mX mG mA mB) (hc : cN < 14) :
    zw (zb (fn_X5_readLet got fk fp n e k s v o cF nF cN inp nN f own made amt op fx al jn lets) (fun o_1 => (zJ5 n f own (o_1.1, o_1.2.1, o_1.2.2.1, o_1.2.2.2.1, cF, cc, o_1.2.2.2.2.1, o_1.2.2.2.2.2.1, o_1.2.2.2.2.2.2.1, o_1.2.2.2.2.2.2.2.1, o_1.2.2.2.2.2.2.2.2.1, o_1.2.2.2.2.2.2.2.2.2.1, o_1.2.2.2.2.2.2.2.2.2.2.1, nF, stp, mst, prc, o_1.2.2.2.2.2.2.2.2.2.2.2.1, o_1.2.2.2.2.2.2.2.2.2.2.2.2.2.2.1, o_1.2.2.2.2.2.2.2.2.2.2.2.2.2.2.2.1, o_1.2.2.2.2.2.2.2.2.2.2.2.2.2.2.2.2.1, o_1.2.2.2.2.2.2.2.2.2.2.2.2.2.2.2.2.2.2, o_1.2.2.2.2.2.2.2.2.2.2.2.2.2.2.2.2.2.1, o_1.2.2.2.2.2.2.2.2.2.2.2.2.1, o_1.2.2.2.2.2.2.2.2.2.2.2.2.2.1)))) (fun r => zw (zb (fn_X12_readsLet n a bg 0 wa 1 g tab mF mNF mN mNN mO m1 m2 mX mW mG mA mB) (fun o_1 => (zb (fn_X12_mark 59 n o_1.2.1 o_1.2.2.2.1 o_1.2.2.2.2.1 g) (fun o_2 => (some (o_1.1, o_2.1, o_1.2.2.1, o_2.2.1, o_2.2.2, mF, o_1.2.2.2.2.2.1, mNF, o_1.2.2.2.2.2.2.1, mS, mM, mC, o_1.2.2.2.2.2.2.2.2.2.2.2.1, mCst, o_1.2.2.2.2.2.2.2.1, o_1.2.2.2.2.2.2.2.2.1, o_1.2.2.2.2.2.2.2.2.2.1, o_1.2.2.2.2.2.2.2.2.2.2.1, o_1.2.2.2.2.2.2.2.2.2.2.2.2.1, o_1.2.2.2.2.2.2.2.2.2.2.2.2.2.1, o_1.2.2.2.2.2.2.2.2.2.2.2.2.2.2)))))) (fun q => zSR n f g fk fp wa mF mN mNF mNN mS mM mC mW mCst mO m1 m2 mX mG mA mB r q)) := by
  have h0 := h
  obtain ⟨hF, hN, hC, hI, hfm, hnu, hgr⟩ := h
  obtain ⟨r1, hr1, q1, hq1, h1⟩ := zLetS (got := got) (fk := fk) (fp := fp) (bg := bg) (wa := wa) (inp := inp) (made := made) (amt := amt) (op := op) (fx := fx) (al := al) (jn := jn) (lets := lets) (mO := mO) (m1 := m1) (m2 := m2) (mX := mX) (mW := mW) (mG := mG) (mA := mA) (mB := mB) hn ha ht ho hT T hF ⟨hN.1, hN.2.1, hc⟩ (zNR_F hfm) (zNR_N hnu)
  rw [hr1, hq1]
  simp only [zb_some]
  rcases h1 with ⟨g', e', k', s', v', o', z, b', c, m, w, p1, x1, p2, x2, rfl, eq1, hnm, hw, hp1, hp2, hx1, hx2, ha1, T1⟩ | ⟨hs, hrow⟩
  · obtain ⟨wv1, q1⟩ := q1
    dsimp only at eq1
    subst eq1
    dsimp only at ha1 T1 ⊢
    obtain ⟨u1, u2⟩ := zTS_let h0 hc hnm hw hp1 hp2 hx1 hx2
    obtain ⟨r2, hr2, q2, hq2, h2⟩ := zSemi (got := g') (fk := fk) (fp := fp) (wa := wa) hn ha1 ht ho T1
    rw [hr2, hq2]
    simp only [zb_some]
    rcases h2 with ⟨y', rfl, rfl, hy⟩ | hs
    · exact zw_some (zw_some (Or.inl ⟨_, y', _, _, _, _, _, rfl, rfl, hy, u1, u2⟩))
    · exact zw_some (zw_some (Or.inr ⟨hs, u2⟩))
  · obtain ⟨r2, hr2, h2, h3, h4⟩ := zSemi_0 (n := n) (f := f) (own := own) (s_20 := (r1.1, r1.2.1, r1.2.2.1, r1.2.2.2.1, cF, cc, r1.2.2.2.2.1, r1.2.2.2.2.2.1, r1.2.2.2.2.2.2.1, r1.2.2.2.2.2.2.2.1, r1.2.2.2.2.2.2.2.2.1, r1.2.2.2.2.2.2.2.2.2.1, r1.2.2.2.2.2.2.2.2.2.2.1, nF, stp, mst, prc, r1.2.2.2.2.2.2.2.2.2.2.2.1, r1.2.2.2.2.2.2.2.2.2.2.2.2.2.2.1, r1.2.2.2.2.2.2.2.2.2.2.2.2.2.2.2.1, r1.2.2.2.2.2.2.2.2.2.2.2.2.2.2.2.2.1, r1.2.2.2.2.2.2.2.2.2.2.2.2.2.2.2.2.2.2, r1.2.2.2.2.2.2.2.2.2.2.2.2.2.2.2.2.2.1, r1.2.2.2.2.2.2.2.2.2.2.2.2.1, r1.2.2.2.2.2.2.2.2.2.2.2.2.2.1)) hs.1
    rw [hr2]
    rw [zMark_n hs.2.1]
    simp only [zb_some]
    refine zw_some (zw_some (Or.inr ⟨⟨h2, hs.2.1, h3.trans hs.2.2.1, h4.trans hs.2.2.2⟩, ?_⟩))
    have hrow := hrow
    have e0 := congrArg (fun t => t.1) hrow
    have e1 := congrArg (fun t => t.2.1) hrow
    have e2 := congrArg (fun t => t.2.2.1) hrow
    have e3 := congrArg (fun t => t.2.2.2.1) hrow
    have e4 := congrArg (fun t => t.2.2.2.2.1) hrow
    have e5 := congrArg (fun t => t.2.2.2.2.2.1) hrow
    have e6 := congrArg (fun t => t.2.2.2.2.2.2.1) hrow
    have e7 := congrArg (fun t => t.2.2.2.2.2.2.2.1) hrow
    have e8 := congrArg (fun t => t.2.2.2.2.2.2.2.2.1) hrow
    have e9 := congrArg (fun t => t.2.2.2.2.2.2.2.2.2) hrow
    dsimp only at e0 e1 e2 e3 e4 e5 e6 e7 e8 e9 ⊢
    rw [e0, e1, e2, e3, e4, e5, e6, e7, e8, e9]
    exact zFR_rf
set_option maxRecDepth 100000 in
theorem zSt_fix {n a e k s v o got fk fp bg wa : Int32} {wv0 : Int64} {f g own tab : Nat → Int32} {cF cc cN inp : Int32} {nF nN stp mst prc al made amt op fx jn lets : Nat → Int32} {mF mN mNF mNN mS mM mC mW mCst mO m1 m2 mX mG : Nat → Int32} {mA mB : Nat → Int64} (hn : n ≤ 1200) (ha : 0 ≤ a ∧ a ≤ n) (ht : zTp f g) (ho : ∀ w : Nat, w < 13 → own w = zOwT w) (hT : (∀ k : Nat, k < 71 → tab k = zTab k)) (T : zTok n f g a e k s v o) (h : zTS cF cc cN inp nF nN stp mst prc al made amt op fx jn lets mF mN mNF mNN mS mM mC mW mCst mO m1 m2 mX mG mA mB) :
    zw (zb (fn_X5_readFixed got fk fp cF n e k s v o cN nN f own nF fx) (fun o_1 => (zJ5 n f own (o_1.1, o_1.2.1, o_1.2.2.1, o_1.2.2.2.1, cF, cc, o_1.2.2.2.2.1, o_1.2.2.2.2.2.1, o_1.2.2.2.2.2.2.1, o_1.2.2.2.2.2.2.2.1, o_1.2.2.2.2.2.2.2.2.1, cN, inp, nF, stp, mst, prc, nN, op, o_1.2.2.2.2.2.2.2.2.2, al, lets, jn, made, amt)))) (fun r => zw (zb (fn_X12_readsFixed n a bg 0 wa 1 g tab mN mNN mF mNF mX) (fun o_1 => (zb (fn_X12_mark 59 n o_1.1 o_1.2.2.1 o_1.2.2.2.1 g) (fun o_2 => (some (wv0, o_2.1, o_1.2.1, o_2.2.1, o_2.2.2, mF, mN, mNF, mNN, mS, mM, mC, mW, mCst, mO, m1, m2, o_1.2.2.2.2, mG, mA, mB)))))) (fun q => zSR n f g fk fp wa mF mN mNF mNN mS mM mC mW mCst mO m1 m2 mX mG mA mB r q)) := by
  have h0 := h
  obtain ⟨hF, hN, hC, hI, hfm, hnu, hgr⟩ := h
  obtain ⟨r1, hr1, q1, hq1, h1⟩ := zFixed (got := got) (fk := fk) (fp := fp) (bg := bg) (wa := wa) (fx := fx) (mX := mX) hn ha ht ho hT T hF hN (zNR_F hfm) (zNR_N hnu)
  rw [hr1, hq1]
  simp only [zb_some]
  rcases h1 with ⟨g', e', k', s', v', o', z, b', i, x, rfl, rfl, hi, hx, ha1, T1⟩ | ⟨hs, hrow⟩
  · dsimp only at ha1 T1 ⊢
    obtain ⟨u1, u2⟩ := zTS_fix h0 hi hx
    obtain ⟨r2, hr2, q2, hq2, h2⟩ := zSemi (got := g') (fk := fk) (fp := fp) (wa := wa) hn ha1 ht ho T1
    rw [hr2, hq2]
    simp only [zb_some]
    rcases h2 with ⟨y', rfl, rfl, hy⟩ | hs
    · exact zw_some (zw_some (Or.inl ⟨_, y', _, _, _, _, _, rfl, rfl, hy, u1, u2⟩))
    · exact zw_some (zw_some (Or.inr ⟨hs, u2⟩))
  · obtain ⟨r2, hr2, h2, h3, h4⟩ := zSemi_0 (n := n) (f := f) (own := own) (s_20 := (r1.1, r1.2.1, r1.2.2.1, r1.2.2.2.1, cF, cc, r1.2.2.2.2.1, r1.2.2.2.2.2.1, r1.2.2.2.2.2.2.1, r1.2.2.2.2.2.2.2.1, r1.2.2.2.2.2.2.2.2.1, cN, inp, nF, stp, mst, prc, nN, op, r1.2.2.2.2.2.2.2.2.2, al, lets, jn, made, amt)) hs.1
    rw [hr2]
    rw [zMark_n hs.2.1]
    simp only [zb_some]
    refine zw_some (zw_some (Or.inr ⟨⟨h2, hs.2.1, h3.trans hs.2.2.1, h4.trans hs.2.2.2⟩, ?_⟩))
    dsimp only
    rw [hrow]
    exact zFR_rf
set_option maxRecDepth 100000 in
theorem zSt_grp {n a e k s v o got fk fp bg wa : Int32} {wv0 : Int64} {f g own tab : Nat → Int32} {cF cc cN inp : Int32} {nF nN stp mst prc al made amt op fx jn lets : Nat → Int32} {mF mN mNF mNN mS mM mC mW mCst mO m1 m2 mX mG : Nat → Int32} {mA mB : Nat → Int64} (hn : n ≤ 1200) (ha : 0 ≤ a ∧ a ≤ n) (ht : zTp f g) (ho : ∀ w : Nat, w < 13 → own w = zOwT w) (hT : (∀ k : Nat, k < 71 → tab k = zTab k)) (T : zTok n f g a e k s v o) (h : zTS cF cc cN inp nF nN stp mst prc al made amt op fx jn lets mF mN mNF mNN mS mM mC mW mCst mO m1 m2 mX mG mA mB) :
    zw (zb (fn_X5_readGroup got fk fp n e k s v o cN nN f own jn) (fun o_1 => (zJ5 n f own (o_1.1, o_1.2.1, o_1.2.2.1, o_1.2.2.2.1, cF, cc, o_1.2.2.2.2.1, o_1.2.2.2.2.2.1, o_1.2.2.2.2.2.2.1, o_1.2.2.2.2.2.2.2.1, o_1.2.2.2.2.2.2.2.2.1, cN, inp, nF, stp, mst, prc, nN, op, fx, al, lets, o_1.2.2.2.2.2.2.2.2.2, made, amt)))) (fun r => zw (zb (fn_X12_readsGroup n a bg 0 wa 1 g tab mN mNN mG) (fun o_1 => (zb (fn_X12_mark 59 n o_1.1 o_1.2.2.1 o_1.2.2.2.1 g) (fun o_2 => (some (wv0, o_2.1, o_1.2.1, o_2.2.1, o_2.2.2, mF, mN, mNF, mNN, mS, mM, mC, mW, mCst, mO, m1, m2, mX, o_1.2.2.2.2, mA, mB)))))) (fun q => zSR n f g fk fp wa mF mN mNF mNN mS mM mC mW mCst mO m1 m2 mX mG mA mB r q)) := by
  have h0 := h
  obtain ⟨hF, hN, hC, hI, hfm, hnu, hgr⟩ := h
  obtain ⟨r1, hr1, q1, hq1, h1⟩ := zGroupS (got := got) (fk := fk) (fp := fp) (bg := bg) (wa := wa) (jn := jn) (mG := mG) hn ha ht ho hT T hN (zNR_N hnu)
  rw [hr1, hq1]
  simp only [zb_some]
  rcases h1 with ⟨g', e', k', s', v', o', J, z, b', G, i, j, rfl, rfl, hi, hj, hij, hJ, hG, ha1, T1⟩ | ⟨hs, hrow⟩
  · dsimp only at ha1 T1 ⊢
    obtain ⟨u1, u2⟩ := zTS_grp h0 hi hj hJ hG
    obtain ⟨r2, hr2, q2, hq2, h2⟩ := zSemi (got := g') (fk := fk) (fp := fp) (wa := wa) hn ha1 ht ho T1
    rw [hr2, hq2]
    simp only [zb_some]
    rcases h2 with ⟨y', rfl, rfl, hy⟩ | hs
    · exact zw_some (zw_some (Or.inl ⟨_, y', _, _, _, _, _, rfl, rfl, hy, u1, u2⟩))
    · exact zw_some (zw_some (Or.inr ⟨hs, u2⟩))
  · obtain ⟨r2, hr2, h2, h3, h4⟩ := zSemi_0 (n := n) (f := f) (own := own) (s_20 := (r1.1, r1.2.1, r1.2.2.1, r1.2.2.2.1, cF, cc, r1.2.2.2.2.1, r1.2.2.2.2.2.1, r1.2.2.2.2.2.2.1, r1.2.2.2.2.2.2.2.1, r1.2.2.2.2.2.2.2.2.1, cN, inp, nF, stp, mst, prc, nN, op, fx, al, lets, r1.2.2.2.2.2.2.2.2.2, made, amt)) hs.1
    rw [hr2]
    rw [zMark_n hs.2.1]
    simp only [zb_some]
    refine zw_some (zw_some (Or.inr ⟨⟨h2, hs.2.1, h3.trans hs.2.2.1, h4.trans hs.2.2.2⟩, ?_⟩))
    dsimp only
    rw [hrow]
    exact zFR_rf
set_option maxRecDepth 100000 in
theorem zSt_alw {n a e k s v o got fk fp bg wa : Int32} {wv0 : Int64} {f g own tab : Nat → Int32} {cF cc cN inp : Int32} {nF nN stp mst prc al made amt op fx jn lets : Nat → Int32} {mF mN mNF mNN mS mM mC mW mCst mO m1 m2 mX mG : Nat → Int32} {mA mB : Nat → Int64} (hn : n ≤ 1200) (ha : 0 ≤ a ∧ a ≤ n) (ht : zTp f g) (ho : ∀ w : Nat, w < 13 → own w = zOwT w) (hT : (∀ k : Nat, k < 71 → tab k = zTab k)) (T : zTok n f g a e k s v o) (h : zTS cF cc cN inp nF nN stp mst prc al made amt op fx jn lets mF mN mNF mNN mS mM mC mW mCst mO m1 m2 mX mG mA mB) :
    zw (zb (fn_X5_readAnswer got fk fp n e k s v o cN nN f own al) (fun o_1 => (zJ5 n f own (o_1.1, o_1.2.1, o_1.2.2.1, o_1.2.2.2.1, cF, cc, o_1.2.2.2.2.1, o_1.2.2.2.2.2.1, o_1.2.2.2.2.2.2.1, o_1.2.2.2.2.2.2.2.1, o_1.2.2.2.2.2.2.2.2.1, cN, inp, nF, stp, mst, prc, nN, op, fx, o_1.2.2.2.2.2.2.2.2.2, lets, jn, made, amt)))) (fun r => zw (zb (fn_X12_readsAnswer n a bg 0 wa 1 g tab mN mNN mW) (fun o_1 => (zb (fn_X12_mark 59 n o_1.1 o_1.2.2.1 o_1.2.2.2.1 g) (fun o_2 => (some (wv0, o_2.1, o_1.2.1, o_2.2.1, o_2.2.2, mF, mN, mNF, mNN, mS, mM, mC, o_1.2.2.2.2, mCst, mO, m1, m2, mX, mG, mA, mB)))))) (fun q => zSR n f g fk fp wa mF mN mNF mNN mS mM mC mW mCst mO m1 m2 mX mG mA mB r q)) := by
  have h0 := h
  obtain ⟨hF, hN, hC, hI, hfm, hnu, hgr⟩ := h
  obtain ⟨r1, hr1, q1, hq1, h1⟩ := zAnswer (got := got) (fk := fk) (fp := fp) (bg := bg) (wa := wa) (al := al) (mW := mW) hn ha ht ho hT T hN (zNR_N hnu)
  rw [hr1, hq1]
  simp only [zb_some]
  rcases h1 with ⟨g', e', k', s', v', o', z, b', i, x, rfl, rfl, hi, hx, ha1, T1⟩ | ⟨hs, hrow⟩
  · dsimp only at ha1 T1 ⊢
    obtain ⟨u1, u2⟩ := zTS_alw h0 hi hx
    obtain ⟨r2, hr2, q2, hq2, h2⟩ := zSemi (got := g') (fk := fk) (fp := fp) (wa := wa) hn ha1 ht ho T1
    rw [hr2, hq2]
    simp only [zb_some]
    rcases h2 with ⟨y', rfl, rfl, hy⟩ | hs
    · exact zw_some (zw_some (Or.inl ⟨_, y', _, _, _, _, _, rfl, rfl, hy, u1, u2⟩))
    · exact zw_some (zw_some (Or.inr ⟨hs, u2⟩))
  · obtain ⟨r2, hr2, h2, h3, h4⟩ := zSemi_0 (n := n) (f := f) (own := own) (s_20 := (r1.1, r1.2.1, r1.2.2.1, r1.2.2.2.1, cF, cc, r1.2.2.2.2.1, r1.2.2.2.2.2.1, r1.2.2.2.2.2.2.1, r1.2.2.2.2.2.2.2.1, r1.2.2.2.2.2.2.2.2.1, cN, inp, nF, stp, mst, prc, nN, op, fx, r1.2.2.2.2.2.2.2.2.2, lets, jn, made, amt)) hs.1
    rw [hr2]
    rw [zMark_n hs.2.1]
    simp only [zb_some]
    refine zw_some (zw_some (Or.inr ⟨⟨h2, hs.2.1, h3.trans hs.2.2.1, h4.trans hs.2.2.2⟩, ?_⟩))
    dsimp only
    rw [hrow]
    exact zFR_rf
theorem zw_zjE {σ ρ : Type} {j j' : σ → Option ρ} {k : (σ → Option ρ) → Option ρ} {P : ρ → Prop} (e : j = j') (h : zw (k j') P) : zw (zj j k) P := by
  subst e
  exact h
theorem zTok_o {n a e k s v o : Int32} {f g : Nat → Int32} (T : zTok n f g a e k s v o) (h : ¬ o = (-1)) : k = 1 ∧ e - s ≤ 6 ∧ zRun n g 1 s e ∧ v.toInt = zCV (zLV g s.toNatClampNeg (zSz s e)) ∧ zOwS v o := by
  obtain ⟨_, _, _, T⟩ := T
  rcases T with ⟨_, _, _, q⟩ | ⟨_, _, _, _, q⟩ | ⟨_, _, _, _, q⟩ | ⟨_, q1, _, q2, q3, q4, q5⟩ | ⟨_, _, _, _, q⟩ | ⟨_, _, _, _, _, _, q⟩
  · exact absurd q h
  · exact absurd q h
  · exact absurd q h
  · exact ⟨q3, q2, q1, q4, q5⟩
  · exact absurd q h
  · exact absurd q h
theorem zBeg_n {o : Int32} (h : zBeg o) : ¬ o = (-1) := by
  rcases h with rfl | rfl | rfl | rfl | rfl | rfl | rfl <;> decide
/-- the reference's own word, where the class has read a word -/
theorem zOwnT {n a e k s v o : Int32} {f g tab : Nat → Int32} (hn : n ≤ 1200) (ha : 0 ≤ a ∧ a ≤ n) (hT : (∀ k : Nat, k < 71 → tab k = zTab k)) (T : zTok n f g a e k s v o) (h : zIsW n g a s) : zw (fn_X12_own e s tab g) (fun r => k = 1 ∧ r = o ∨ k = 4 ∧ r = (-1)) := by
  obtain ⟨b1, b2, b3, b4⟩ := zTok_b ha T
  obtain ⟨hr, hk⟩ := zTok_w T h
  have hs : 0 ≤ s ∧ s ≤ 1200 := ⟨b1, by grind⟩
  have he : 0 ≤ e ∧ e ≤ 1200 := ⟨by grind, by grind⟩
  refine zw_mono (zOwnM he hs b3 hT (fun i hi => zRun_l b1 b3 b4 hn hr.2.1 i hi)) (fun r hw => ?_)
  obtain ⟨_, _, w1, w2⟩ := hw
  rcases hk with ⟨k1, k2, k3, k4⟩ | ⟨k1, k2⟩
  · exact Or.inl ⟨k1, zOwS_un (w2 v k2 k3) k4⟩
  · exact Or.inr ⟨k1, w1 k2⟩
set_option maxRecDepth 100000 in
set_option maxHeartbeats 2000000 in
/-- no STATEMENT begins here -/
theorem zRS_1 {p n a e k s v o bg wa : Int32} {wv0 : Int64} {f g tab : Nat → Int32} {mF mN mNF mNN mS mM mC mW mCst mO m1 m2 mX mG : Nat → Int32} {mA mB : Nat → Int64} (hn : n ≤ 1200) (ha : 0 ≤ a ∧ a ≤ n) (hT : (∀ k : Nat, k < 71 → tab k = zTab k)) (T : zTok n f g a e k s v o) (h : ¬ zBeg o) : ∃ z b', fn_X12_readsStatement p n a bg 0 wa 1 wv0 g tab mF mN mNF mNN mS mM mC mW mCst mO m1 m2 mX mG mA mB = some (wv0, z, b', 1, s, mF, mN, mNF, mNN, mS, mM, mC, mW, mCst, mO, m1, m2, mX, mG, mA, mB) := by
  have hg2 : ∀ {ρ : Type} (e : Option ρ), zg 1 2 e = e := fun e => zg_in 2 (by decide +kernel) ⟨by decide, by decide⟩ e
  have g1 : fn_X12_goesWell 1 = some 0 := rfl
  have h10 : ¬ (1 : Int32) = 0 := by decide
  obtain ⟨w, hw, hc⟩ := zWordM (bg := bg) (wa := wa) hn ha T
  unfold fn_X12_readsStatement
  rw [hw]
  rcases hc with ⟨c, rfl⟩ | ⟨c, rfl⟩
  · obtain ⟨r, hr, hrr⟩ := zOwnT hn ha hT T c
    have hb : ¬ zBeg r := by
      rcases hrr with ⟨_, q⟩ | ⟨_, q⟩
      · rw [q]; exact h
      · rw [q]; unfold zBeg; decide
    have hb2 := (zStarts_n hb).2
    refine ⟨e, s, ?_⟩
    simp only [zb_some, zj, zGw_0, hr, hb2, zFl_0, g1, if_neg h10, if_true, hg2, ite_self]
  · refine ⟨s, s, ?_⟩
    simp only [zb_some, zj, g1, if_true, hg2, ite_self]
set_option maxRecDepth 100000 in
set_option maxHeartbeats 2000000 in
/-- no room is left -/
theorem zRS_4 {p n a e k s v o bg wa : Int32} {wv0 : Int64} {f g tab : Nat → Int32} {mF mN mNF mNN mS mM mC mW mCst mO m1 m2 mX mG : Nat → Int32} {mA mB : Nat → Int64} (hn : n ≤ 1200) (ha : 0 ≤ a ∧ a ≤ n) (hT : (∀ k : Nat, k < 71 → tab k = zTab k)) (T : zTok n f g a e k s v o) (h : zBeg o) (hf : zFull p o (mF 1) (mN 1)) : fn_X12_readsStatement p n a bg 0 wa 1 wv0 g tab mF mN mNF mNN mS mM mC mW mCst mO m1 m2 mX mG mA mB = some (wv0, e, s, 4, s, mF, mN, mNF, mNN, mS, mM, mC, mW, mCst, mO, m1, m2, mX, mG, mA, mB) := by
  have hg2 : ∀ {ρ : Type} (e : Option ρ), zg 1 2 e = e := fun e => zg_in 2 (by decide +kernel) ⟨by decide, by decide⟩ e
  have g4 : fn_X12_goesWell 4 = some 0 := rfl
  have h10 : ¬ (1 : Int32) = 0 := by decide
  have k1 := zTok_k1 T (zTok_o T (zBeg_n h)).1
  obtain ⟨w, hw, hc⟩ := zWordM (bg := bg) (wa := wa) hn ha T
  obtain ⟨r, hr, hrr⟩ := zOwnT hn ha hT T k1
  have er : r = o := by
    rcases hrr with ⟨_, q⟩ | ⟨q, _⟩
    · exact q
    · exact absurd ((zTok_o T (zBeg_n h)).1.symm.trans q) (by decide)
  subst er
  have hb2 := (zStarts_y h).2
  unfold fn_X12_readsStatement
  rw [hw]
  rcases hc with ⟨c, rfl⟩ | ⟨c, rfl⟩
  · simp only [zb_some, zj, zGw_0, hr, hb2, zFl_0, g4, if_neg h10, if_true, hg2, zn01.2]
    unfold zFull at hf
    grind
  · exact absurd k1 c
set_option maxRecDepth 100000 in
set_option maxHeartbeats 2000000 in
theorem zRS_fmt {p n a e k s v o bg wa : Int32} {wv0 : Int64} {f g tab : Nat → Int32} {mF mN mNF mNN mS mM mC mW mCst mO m1 m2 mX mG : Nat → Int32} {mA mB : Nat → Int64} (hn : n ≤ 1200) (ha : 0 ≤ a ∧ a ≤ n) (hT : (∀ k : Nat, k < 71 → tab k = zTab k)) (T : zTok n f g a e k s v o) (ho : o = 0) (hf : ¬ zFull p o (mF 1) (mN 1)) : fn_X12_readsStatement p n a bg 0 wa 1 wv0 g tab mF mN mNF mNN mS mM mC mW mCst mO m1 m2 mX mG mA mB = (zb (fn_X12_readsFormat n e s 0 wa 1 g tab mF mNF mN mNN mS mM mC) (fun o_1 => (zb (fn_X12_mark 59 n o_1.1 o_1.2.2.1 o_1.2.2.2.1 g) (fun o_2 => (some (wv0, o_2.1, o_1.2.1, o_2.2.1, o_2.2.2, o_1.2.2.2.2.1, mN, o_1.2.2.2.2.2.1, mNN, o_1.2.2.2.2.2.2.1, o_1.2.2.2.2.2.2.2.1, o_1.2.2.2.2.2.2.2.2, mW, mCst, mO, m1, m2, mX, mG, mA, mB)))))) := by
  have hg2 : ∀ {ρ : Type} (e : Option ρ), zg 1 2 e = e := fun e => zg_in 2 (by decide +kernel) ⟨by decide, by decide⟩ e
  have h10 : ¬ (1 : Int32) = 0 := by decide
  subst ho
  have q1 : ¬ (0 : Int32) = 1 := by decide
  have q2 : ¬ (0 : Int32) = 2 := by decide
  have q3 : ¬ (0 : Int32) = 3 := by decide
  have q4 : ¬ (0 : Int32) = 4 := by decide
  have q5 : ¬ (0 : Int32) = 5 := by decide
  have q6 : ¬ (0 : Int32) = 6 := by decide
  have q7 : ¬ (0 : Int32) = 7 := by decide
  have q8 : ¬ (0 : Int32) = 8 := by decide
  have q9 : ¬ (0 : Int32) = 9 := by decide
  have q10 : ¬ (0 : Int32) = 10 := by decide
  have h : zBeg 0 := by unfold zBeg; decide
  have k1 := zTok_k1 T (zTok_o T (zBeg_n h)).1
  obtain ⟨w, hw, hc⟩ := zWordM (bg := bg) (wa := wa) hn ha T
  obtain ⟨r, hr, hrr⟩ := zOwnT hn ha hT T k1
  have er : r = 0 := by
    rcases hrr with ⟨_, q⟩ | ⟨q, _⟩
    · exact q
    · exact absurd ((zTok_o T (zBeg_n h)).1.symm.trans q) (by decide)
  subst er
  have hb2 := (zStarts_y h).2
  have f1 : ¬ p = 40 := fun q => hf (Or.inl q)
  have f2 : ¬ mF 1 = 4  := fun q => hf (Or.inr (Or.inl ⟨rfl, q⟩))
  unfold fn_X12_readsStatement
  rw [hw]
  rcases hc with ⟨c, rfl⟩ | ⟨c, rfl⟩
  · simp only [zb_some, zj, zGw_0, hr, hb2, zn01.2, if_neg h10, if_neg f1, if_true, hg2, if_neg q1, if_neg q2, if_neg q3, if_neg q4, if_neg q5, if_neg q6, if_neg q7, if_neg q8, if_neg q9, if_neg q10, if_neg f2]
  · exact absurd k1 c
set_option maxRecDepth 100000 in
set_option maxHeartbeats 2000000 in
theorem zRS_cst {p n a e k s v o bg wa : Int32} {wv0 : Int64} {f g tab : Nat → Int32} {mF mN mNF mNN mS mM mC mW mCst mO m1 m2 mX mG : Nat → Int32} {mA mB : Nat → Int64} (hn : n ≤ 1200) (ha : 0 ≤ a ∧ a ≤ n) (hT : (∀ k : Nat, k < 71 → tab k = zTab k)) (T : zTok n f g a e k s v o) (ho : o = 4) (hf : ¬ zFull p o (mF 1) (mN 1)) : fn_X12_readsStatement p n a bg 0 wa 1 wv0 g tab mF mN mNF mNN mS mM mC mW mCst mO m1 m2 mX mG mA mB = (zb (fn_X12_number (0 : Int64) (999 : Int64) n e s 0 wa g) (fun o_1 => (zb (fn_X12_goesWell o_1.2.2.2.1) (fun o_67 => (if o_67 = 0 then (zg 1 2 (zb (fn_X12_mark 59 n o_1.2.1 o_1.2.2.2.1 o_1.2.2.2.2 g) (fun o_2 => (some (wv0, o_2.1, o_1.2.2.1, o_2.2.1, o_2.2.2, mF, mN, mNF, mNN, mS, mM, mC, mW, (upd mCst (1 : Int32).toNatClampNeg (mCst (1 : Int32).toNatClampNeg)), mO, m1, m2, mX, mG, mA, mB))))) else (zg 1 2 (zb (fn_X12_mark 59 n o_1.2.1 o_1.2.2.2.1 o_1.2.2.2.2 g) (fun o_2 => (some (wv0, o_2.1, o_1.2.2.1, o_2.2.1, o_2.2.2, mF, mN, mNF, mNN, mS, mM, mC, mW, (upd mCst (1 : Int32).toNatClampNeg o_1.1.toInt32), mO, m1, m2, mX, mG, mA, mB)))))))))) := by
  have hg2 : ∀ {ρ : Type} (e : Option ρ), zg 1 2 e = e := fun e => zg_in 2 (by decide +kernel) ⟨by decide, by decide⟩ e
  have h10 : ¬ (1 : Int32) = 0 := by decide
  subst ho
  have q0 : ¬ (4 : Int32) = 0 := by decide
  have q1 : ¬ (4 : Int32) = 1 := by decide
  have q2 : ¬ (4 : Int32) = 2 := by decide
  have q3 : ¬ (4 : Int32) = 3 := by decide
  have q5 : ¬ (4 : Int32) = 5 := by decide
  have q6 : ¬ (4 : Int32) = 6 := by decide
  have q7 : ¬ (4 : Int32) = 7 := by decide
  have q8 : ¬ (4 : Int32) = 8 := by decide
  have q9 : ¬ (4 : Int32) = 9 := by decide
  have q10 : ¬ (4 : Int32) = 10 := by decide
  have h : zBeg 4 := by unfold zBeg; decide
  have k1 := zTok_k1 T (zTok_o T (zBeg_n h)).1
  obtain ⟨w, hw, hc⟩ := zWordM (bg := bg) (wa := wa) hn ha T
  obtain ⟨r, hr, hrr⟩ := zOwnT hn ha hT T k1
  have er : r = 4 := by
    rcases hrr with ⟨_, q⟩ | ⟨q, _⟩
    · exact q
    · exact absurd ((zTok_o T (zBeg_n h)).1.symm.trans q) (by decide)
  subst er
  have hb2 := (zStarts_y h).2
  have f1 : ¬ p = 40 := fun q => hf (Or.inl q)
  have f2 : ¬ mF 1 = 4 ∨ True := Or.inr trivial
  unfold fn_X12_readsStatement
  rw [hw]
  rcases hc with ⟨c, rfl⟩ | ⟨c, rfl⟩
  · simp only [zb_some, zj, zGw_0, hr, hb2, zn01.2, if_neg h10, if_neg f1, if_true, hg2, if_neg q0, if_neg q1, if_neg q2, if_neg q3, if_neg q5, if_neg q6, if_neg q7, if_neg q8, if_neg q9, if_neg q10]
  · exact absurd k1 c
set_option maxRecDepth 100000 in
set_option maxHeartbeats 2000000 in
theorem zRS_box {p n a e k s v o bg wa : Int32} {wv0 : Int64} {f g tab : Nat → Int32} {mF mN mNF mNN mS mM mC mW mCst mO m1 m2 mX mG : Nat → Int32} {mA mB : Nat → Int64} (hn : n ≤ 1200) (ha : 0 ≤ a ∧ a ≤ n) (hT : (∀ k : Nat, k < 71 → tab k = zTab k)) (T : zTok n f g a e k s v o) (ho : o = 5) (hf : ¬ zFull p o (mF 1) (mN 1)) : fn_X12_readsStatement p n a bg 0 wa 1 wv0 g tab mF mN mNF mNN mS mM mC mW mCst mO m1 m2 mX mG mA mB = (zb (fn_X12_readsInput n e s 0 wa 1 g tab mF mNF mN mNN mO m1 m2 mX mW mG mA mB) (fun o_1 => (zb (fn_X12_mark 59 n o_1.1 o_1.2.2.1 o_1.2.2.2.1 g) (fun o_2 => (some (wv0, o_2.1, o_1.2.1, o_2.2.1, o_2.2.2, mF, o_1.2.2.2.2.1, mNF, o_1.2.2.2.2.2.1, mS, mM, mC, o_1.2.2.2.2.2.2.2.2.2.2.1, mCst, o_1.2.2.2.2.2.2.1, o_1.2.2.2.2.2.2.2.1, o_1.2.2.2.2.2.2.2.2.1, o_1.2.2.2.2.2.2.2.2.2.1, o_1.2.2.2.2.2.2.2.2.2.2.2.1, o_1.2.2.2.2.2.2.2.2.2.2.2.2.1, o_1.2.2.2.2.2.2.2.2.2.2.2.2.2)))))) := by
  have hg2 : ∀ {ρ : Type} (e : Option ρ), zg 1 2 e = e := fun e => zg_in 2 (by decide +kernel) ⟨by decide, by decide⟩ e
  have h10 : ¬ (1 : Int32) = 0 := by decide
  subst ho
  have q0 : ¬ (5 : Int32) = 0 := by decide
  have q1 : ¬ (5 : Int32) = 1 := by decide
  have q2 : ¬ (5 : Int32) = 2 := by decide
  have q3 : ¬ (5 : Int32) = 3 := by decide
  have q4 : ¬ (5 : Int32) = 4 := by decide
  have q6 : ¬ (5 : Int32) = 6 := by decide
  have q7 : ¬ (5 : Int32) = 7 := by decide
  have q8 : ¬ (5 : Int32) = 8 := by decide
  have q9 : ¬ (5 : Int32) = 9 := by decide
  have q10 : ¬ (5 : Int32) = 10 := by decide
  have h : zBeg 5 := by unfold zBeg; decide
  have k1 := zTok_k1 T (zTok_o T (zBeg_n h)).1
  obtain ⟨w, hw, hc⟩ := zWordM (bg := bg) (wa := wa) hn ha T
  obtain ⟨r, hr, hrr⟩ := zOwnT hn ha hT T k1
  have er : r = 5 := by
    rcases hrr with ⟨_, q⟩ | ⟨q, _⟩
    · exact q
    · exact absurd ((zTok_o T (zBeg_n h)).1.symm.trans q) (by decide)
  subst er
  have hb2 := (zStarts_y h).2
  have f1 : ¬ p = 40 := fun q => hf (Or.inl q)
  have f2 : ¬ mF 1 = 4 ∨ True := Or.inr trivial
  unfold fn_X12_readsStatement
  rw [hw]
  rcases hc with ⟨c, rfl⟩ | ⟨c, rfl⟩
  · simp only [zb_some, zj, zGw_0, hr, hb2, zn01.2, if_neg h10, if_neg f1, if_true, hg2, if_neg q0, if_neg q1, if_neg q2, if_neg q3, if_neg q4, if_neg q6, if_neg q7, if_neg q8, if_neg q9, if_neg q10, if_neg (show ¬ mN 1 = 14 from fun q => hf (Or.inr (Or.inr ⟨Or.inl rfl, q⟩)))]
  · exact absurd k1 c
set_option maxRecDepth 100000 in
set_option maxHeartbeats 2000000 in
theorem zRS_let {p n a e k s v o bg wa : Int32} {wv0 : Int64} {f g tab : Nat → Int32} {mF mN mNF mNN mS mM mC mW mCst mO m1 m2 mX mG : Nat → Int32} {mA mB : Nat → Int64} (hn : n ≤ 1200) (ha : 0 ≤ a ∧ a ≤ n) (hT : (∀ k : Nat, k < 71 → tab k = zTab k)) (T : zTok n f g a e k s v o) (ho : o = 6) (hf : ¬ zFull p o (mF 1) (mN 1)) : fn_X12_readsStatement p n a bg 0 wa 1 wv0 g tab mF mN mNF mNN mS mM mC mW mCst mO m1 m2 mX mG mA mB = (zb (fn_X12_readsLet n e s 0 wa 1 g tab mF mNF mN mNN mO m1 m2 mX mW mG mA mB) (fun o_1 => (zb (fn_X12_mark 59 n o_1.2.1 o_1.2.2.2.1 o_1.2.2.2.2.1 g) (fun o_2 => (some (o_1.1, o_2.1, o_1.2.2.1, o_2.2.1, o_2.2.2, mF, o_1.2.2.2.2.2.1, mNF, o_1.2.2.2.2.2.2.1, mS, mM, mC, o_1.2.2.2.2.2.2.2.2.2.2.2.1, mCst, o_1.2.2.2.2.2.2.2.1, o_1.2.2.2.2.2.2.2.2.1, o_1.2.2.2.2.2.2.2.2.2.1, o_1.2.2.2.2.2.2.2.2.2.2.1, o_1.2.2.2.2.2.2.2.2.2.2.2.2.1, o_1.2.2.2.2.2.2.2.2.2.2.2.2.2.1, o_1.2.2.2.2.2.2.2.2.2.2.2.2.2.2)))))) := by
  have hg2 : ∀ {ρ : Type} (e : Option ρ), zg 1 2 e = e := fun e => zg_in 2 (by decide +kernel) ⟨by decide, by decide⟩ e
  have h10 : ¬ (1 : Int32) = 0 := by decide
  subst ho
  have q0 : ¬ (6 : Int32) = 0 := by decide
  have q1 : ¬ (6 : Int32) = 1 := by decide
  have q2 : ¬ (6 : Int32) = 2 := by decide
  have q3 : ¬ (6 : Int32) = 3 := by decide
  have q4 : ¬ (6 : Int32) = 4 := by decide
  have q5 : ¬ (6 : Int32) = 5 := by decide
  have q7 : ¬ (6 : Int32) = 7 := by decide
  have q8 : ¬ (6 : Int32) = 8 := by decide
  have q9 : ¬ (6 : Int32) = 9 := by decide
  have q10 : ¬ (6 : Int32) = 10 := by decide
  have h : zBeg 6 := by unfold zBeg; decide
  have k1 := zTok_k1 T (zTok_o T (zBeg_n h)).1
  obtain ⟨w, hw, hc⟩ := zWordM (bg := bg) (wa := wa) hn ha T
  obtain ⟨r, hr, hrr⟩ := zOwnT hn ha hT T k1
  have er : r = 6 := by
    rcases hrr with ⟨_, q⟩ | ⟨q, _⟩
    · exact q
    · exact absurd ((zTok_o T (zBeg_n h)).1.symm.trans q) (by decide)
  subst er
  have hb2 := (zStarts_y h).2
  have f1 : ¬ p = 40 := fun q => hf (Or.inl q)
  have f2 : ¬ mF 1 = 4 ∨ True := Or.inr trivial
  unfold fn_X12_readsStatement
  rw [hw]
  rcases hc with ⟨c, rfl⟩ | ⟨c, rfl⟩
  · simp only [zb_some, zj, zGw_0, hr, hb2, zn01.2, if_neg h10, if_neg f1, if_true, hg2, if_neg q0, if_neg q1, if_neg q2, if_neg q3, if_neg q4, if_neg q5, if_neg q7, if_neg q8, if_neg q9, if_neg q10, if_neg (show ¬ mN 1 = 14 from fun q => hf (Or.inr (Or.inr ⟨Or.inr rfl, q⟩)))]
  · exact absurd k1 c
set_option maxRecDepth 100000 in
set_option maxHeartbeats 2000000 in
theorem zRS_fix {p n a e k s v o bg wa : Int32} {wv0 : Int64} {f g tab : Nat → Int32} {mF mN mNF mNN mS mM mC mW mCst mO m1 m2 mX mG : Nat → Int32} {mA mB : Nat → Int64} (hn : n ≤ 1200) (ha : 0 ≤ a ∧ a ≤ n) (hT : (∀ k : Nat, k < 71 → tab k = zTab k)) (T : zTok n f g a e k s v o) (ho : o = 9) (hf : ¬ zFull p o (mF 1) (mN 1)) : fn_X12_readsStatement p n a bg 0 wa 1 wv0 g tab mF mN mNF mNN mS mM mC mW mCst mO m1 m2 mX mG mA mB = (zb (fn_X12_readsFixed n e s 0 wa 1 g tab mN mNN mF mNF mX) (fun o_1 => (zb (fn_X12_mark 59 n o_1.1 o_1.2.2.1 o_1.2.2.2.1 g) (fun o_2 => (some (wv0, o_2.1, o_1.2.1, o_2.2.1, o_2.2.2, mF, mN, mNF, mNN, mS, mM, mC, mW, mCst, mO, m1, m2, o_1.2.2.2.2, mG, mA, mB)))))) := by
  have hg2 : ∀ {ρ : Type} (e : Option ρ), zg 1 2 e = e := fun e => zg_in 2 (by decide +kernel) ⟨by decide, by decide⟩ e
  have h10 : ¬ (1 : Int32) = 0 := by decide
  subst ho
  have q0 : ¬ (9 : Int32) = 0 := by decide
  have q1 : ¬ (9 : Int32) = 1 := by decide
  have q2 : ¬ (9 : Int32) = 2 := by decide
  have q3 : ¬ (9 : Int32) = 3 := by decide
  have q4 : ¬ (9 : Int32) = 4 := by decide
  have q5 : ¬ (9 : Int32) = 5 := by decide
  have q6 : ¬ (9 : Int32) = 6 := by decide
  have q7 : ¬ (9 : Int32) = 7 := by decide
  have q8 : ¬ (9 : Int32) = 8 := by decide
  have q10 : ¬ (9 : Int32) = 10 := by decide
  have h : zBeg 9 := by unfold zBeg; decide
  have k1 := zTok_k1 T (zTok_o T (zBeg_n h)).1
  obtain ⟨w, hw, hc⟩ := zWordM (bg := bg) (wa := wa) hn ha T
  obtain ⟨r, hr, hrr⟩ := zOwnT hn ha hT T k1
  have er : r = 9 := by
    rcases hrr with ⟨_, q⟩ | ⟨q, _⟩
    · exact q
    · exact absurd ((zTok_o T (zBeg_n h)).1.symm.trans q) (by decide)
  subst er
  have hb2 := (zStarts_y h).2
  have f1 : ¬ p = 40 := fun q => hf (Or.inl q)
  have f2 : ¬ mF 1 = 4 ∨ True := Or.inr trivial
  unfold fn_X12_readsStatement
  rw [hw]
  rcases hc with ⟨c, rfl⟩ | ⟨c, rfl⟩
  · simp only [zb_some, zj, zGw_0, hr, hb2, zn01.2, if_neg h10, if_neg f1, if_true, hg2, if_neg q0, if_neg q1, if_neg q2, if_neg q3, if_neg q4, if_neg q5, if_neg q6, if_neg q7, if_neg q8, if_neg q10]
  · exact absurd k1 c
set_option maxRecDepth 100000 in
set_option maxHeartbeats 2000000 in
theorem zRS_grp {p n a e k s v o bg wa : Int32} {wv0 : Int64} {f g tab : Nat → Int32} {mF mN mNF mNN mS mM mC mW mCst mO m1 m2 mX mG : Nat → Int32} {mA mB : Nat → Int64} (hn : n ≤ 1200) (ha : 0 ≤ a ∧ a ≤ n) (hT : (∀ k : Nat, k < 71 → tab k = zTab k)) (T : zTok n f g a e k s v o) (ho : o = 10) (hf : ¬ zFull p o (mF 1) (mN 1)) : fn_X12_readsStatement p n a bg 0 wa 1 wv0 g tab mF mN mNF mNN mS mM mC mW mCst mO m1 m2 mX mG mA mB = (zb (fn_X12_readsGroup n e s 0 wa 1 g tab mN mNN mG) (fun o_1 => (zb (fn_X12_mark 59 n o_1.1 o_1.2.2.1 o_1.2.2.2.1 g) (fun o_2 => (some (wv0, o_2.1, o_1.2.1, o_2.2.1, o_2.2.2, mF, mN, mNF, mNN, mS, mM, mC, mW, mCst, mO, m1, m2, mX, o_1.2.2.2.2, mA, mB)))))) := by
  have hg2 : ∀ {ρ : Type} (e : Option ρ), zg 1 2 e = e := fun e => zg_in 2 (by decide +kernel) ⟨by decide, by decide⟩ e
  have h10 : ¬ (1 : Int32) = 0 := by decide
  subst ho
  have q0 : ¬ (10 : Int32) = 0 := by decide
  have q1 : ¬ (10 : Int32) = 1 := by decide
  have q2 : ¬ (10 : Int32) = 2 := by decide
  have q3 : ¬ (10 : Int32) = 3 := by decide
  have q4 : ¬ (10 : Int32) = 4 := by decide
  have q5 : ¬ (10 : Int32) = 5 := by decide
  have q6 : ¬ (10 : Int32) = 6 := by decide
  have q7 : ¬ (10 : Int32) = 7 := by decide
  have q8 : ¬ (10 : Int32) = 8 := by decide
  have q9 : ¬ (10 : Int32) = 9 := by decide
  have h : zBeg 10 := by unfold zBeg; decide
  have k1 := zTok_k1 T (zTok_o T (zBeg_n h)).1
  obtain ⟨w, hw, hc⟩ := zWordM (bg := bg) (wa := wa) hn ha T
  obtain ⟨r, hr, hrr⟩ := zOwnT hn ha hT T k1
  have er : r = 10 := by
    rcases hrr with ⟨_, q⟩ | ⟨q, _⟩
    · exact q
    · exact absurd ((zTok_o T (zBeg_n h)).1.symm.trans q) (by decide)
  subst er
  have hb2 := (zStarts_y h).2
  have f1 : ¬ p = 40 := fun q => hf (Or.inl q)
  have f2 : ¬ mF 1 = 4 ∨ True := Or.inr trivial
  unfold fn_X12_readsStatement
  rw [hw]
  rcases hc with ⟨c, rfl⟩ | ⟨c, rfl⟩
  · simp only [zb_some, zj, zGw_0, hr, hb2, zn01.2, if_neg h10, if_neg f1, if_true, hg2, if_neg q0, if_neg q1, if_neg q2, if_neg q3, if_neg q4, if_neg q5, if_neg q6, if_neg q7, if_neg q8, if_neg q9]
  · exact absurd k1 c
set_option maxRecDepth 100000 in
set_option maxHeartbeats 2000000 in
theorem zRS_alw {p n a e k s v o bg wa : Int32} {wv0 : Int64} {f g tab : Nat → Int32} {mF mN mNF mNN mS mM mC mW mCst mO m1 m2 mX mG : Nat → Int32} {mA mB : Nat → Int64} (hn : n ≤ 1200) (ha : 0 ≤ a ∧ a ≤ n) (hT : (∀ k : Nat, k < 71 → tab k = zTab k)) (T : zTok n f g a e k s v o) (ho : o = 11) (hf : ¬ zFull p o (mF 1) (mN 1)) : fn_X12_readsStatement p n a bg 0 wa 1 wv0 g tab mF mN mNF mNN mS mM mC mW mCst mO m1 m2 mX mG mA mB = (zb (fn_X12_readsAnswer n e s 0 wa 1 g tab mN mNN mW) (fun o_1 => (zb (fn_X12_mark 59 n o_1.1 o_1.2.2.1 o_1.2.2.2.1 g) (fun o_2 => (some (wv0, o_2.1, o_1.2.1, o_2.2.1, o_2.2.2, mF, mN, mNF, mNN, mS, mM, mC, o_1.2.2.2.2, mCst, mO, m1, m2, mX, mG, mA, mB)))))) := by
  have hg2 : ∀ {ρ : Type} (e : Option ρ), zg 1 2 e = e := fun e => zg_in 2 (by decide +kernel) ⟨by decide, by decide⟩ e
  have h10 : ¬ (1 : Int32) = 0 := by decide
  subst ho
  have q0 : ¬ (11 : Int32) = 0 := by decide
  have q1 : ¬ (11 : Int32) = 1 := by decide
  have q2 : ¬ (11 : Int32) = 2 := by decide
  have q3 : ¬ (11 : Int32) = 3 := by decide
  have q4 : ¬ (11 : Int32) = 4 := by decide
  have q5 : ¬ (11 : Int32) = 5 := by decide
  have q6 : ¬ (11 : Int32) = 6 := by decide
  have q7 : ¬ (11 : Int32) = 7 := by decide
  have q8 : ¬ (11 : Int32) = 8 := by decide
  have q9 : ¬ (11 : Int32) = 9 := by decide
  have q10 : ¬ (11 : Int32) = 10 := by decide
  have h : zBeg 11 := by unfold zBeg; decide
  have k1 := zTok_k1 T (zTok_o T (zBeg_n h)).1
  obtain ⟨w, hw, hc⟩ := zWordM (bg := bg) (wa := wa) hn ha T
  obtain ⟨r, hr, hrr⟩ := zOwnT hn ha hT T k1
  have er : r = 11 := by
    rcases hrr with ⟨_, q⟩ | ⟨q, _⟩
    · exact q
    · exact absurd ((zTok_o T (zBeg_n h)).1.symm.trans q) (by decide)
  subst er
  have hb2 := (zStarts_y h).2
  have f1 : ¬ p = 40 := fun q => hf (Or.inl q)
  have f2 : ¬ mF 1 = 4 ∨ True := Or.inr trivial
  unfold fn_X12_readsStatement
  rw [hw]
  rcases hc with ⟨c, rfl⟩ | ⟨c, rfl⟩
  · simp only [zb_some, zj, zGw_0, hr, hb2, zn01.2, if_neg h10, if_neg f1, if_true, hg2, if_neg q0, if_neg q1, if_neg q2, if_neg q3, if_neg q4, if_neg q5, if_neg q6, if_neg q7, if_neg q8, if_neg q9, if_neg q10]
  · exact absurd k1 c
set_option maxRecDepth 100000 in
set_option maxHeartbeats 4000000 in
theorem zStmt {p n a e k s v o got fk fp bg wa : Int32} {wv0 : Int64} {f g own tab : Nat → Int32} {cF cc cN inp : Int32} {nF nN stp mst prc al made amt op fx jn lets : Nat → Int32} {mF mN mNF mNN mS mM mC mW mCst mO m1 m2 mX mG : Nat → Int32} {mA mB : Nat → Int64} (hn : n ≤ 1200) (ha : 0 ≤ a ∧ a ≤ n) (ht : zTp f g) (ho : ∀ w : Nat, w < 13 → own w = zOwT w) (hT : (∀ k : Nat, k < 71 → tab k = zTab k)) (T : zTok n f g a e k s v o) (h : zTS cF cc cN inp nF nN stp mst prc al made amt op fx jn lets mF mN mNF mNN mS mM mC mW mCst mO m1 m2 mX mG mA mB) (hp : 0 ≤ p ∧ p ≤ 40) : zw (fn_X5_readStatement p got fk fp n e k s v o cF cc cN inp f own nF nN stp mst prc al made amt op fx jn lets) (fun r => zw (fn_X12_readsStatement p n a bg 0 wa 1 wv0 g tab mF mN mNF mNN mS mM mC mW mCst mO m1 m2 mX mG mA mB) (fun q => zSR n f g fk fp wa mF mN mNF mNN mS mM mC mW mCst mO m1 m2 mX mG mA mB r q ∧ (¬ r.1 = 0 → p < 40))) := by
  have h0 := h
  obtain ⟨hF, hN, hC, hI, hfm, hnu, hgr⟩ := h
  have h10 : ¬ (1 : Int32) = 0 := by decide
  unfold fn_X5_readStatement
  by_cases hb : zBeg o
  · rw [(zStarts_y hb).1]
    simp only [zb_some]
    rw [if_neg h10]
    by_cases hf : zFull p o (mF 1) (mN 1)
    · have hm := zRS_4 (bg := bg) (wa := wa) (wv0 := wv0) (mNF := mNF) (mNN := mNN) (mS := mS) (mM := mM) (mC := mC) (mW := mW) (mCst := mCst) (mO := mO) (m1 := m1) (m2 := m2) (mX := mX) (mG := mG) (mA := mA) (mB := mB) hn ha hT T hb hf
      rw [hm]
      refine zw_if (fun c => ?_) (fun c => ?_)
      · exact zw_some (zw_some ⟨Or.inr ⟨⟨rfl, show ¬ (4 : Int32) = 0 by decide, rfl, rfl⟩, zFR_rf⟩, fun q => absurd rfl q⟩)
      · have hfc : o = 0 ∧ cF = 4 ∨ (o = 5 ∨ o = 6) ∧ cN = 14 := by
          rw [hF.1, hN.1] at hf
          rcases hf with q | q
          · exact absurd (show 40 ≤ p by rw [q]; decide) c
          · exact q
        rw [zIsFull hF.2 hN.2, if_pos hfc]
        simp only [zb_some]
        rw [if_neg h10]
        exact zw_some (zw_some ⟨Or.inr ⟨⟨rfl, show ¬ (4 : Int32) = 0 by decide, rfl, rfl⟩, zFR_rf⟩, fun q => absurd rfl q⟩)
    · have hf40 : ¬ 40 ≤ p := fun q => hf (Or.inl (by grind))
      have hnf : ¬ (o = 0 ∧ cF = 4 ∨ (o = 5 ∨ o = 6) ∧ cN = 14) := fun q => hf (by rw [hF.1, hN.1]; exact Or.inr q)
      rw [if_neg hf40, zIsFull hF.2 hN.2, if_neg hnf]
      simp only [zb_some]
      rw [if_pos trivial]
      have hk1 := (zTok_o T (zBeg_n hb)).1
      refine zw_zb0 (zAdvN hn ha ht ho T (Or.inl hk1)) (fun x hx => ?_)
      have ha1 := (zTok_nx hn ha T (Or.inl hk1)).1
      refine zw_zjE (j' := zJ5 n f own) rfl ?_
      (try dsimp only)
      have hb' := hb
      rcases hb' with q | q | q | q | q | q | q
      · rw [zRS_fmt (bg := bg) (wa := wa) (wv0 := wv0) hn ha hT T q hf]
        rw [if_pos q]
        exact zw_mono (zSt_fmt (wv0 := wv0) hn ha1 ht ho hT hx h0 (by rw [hF.1, hN.1] at hf; unfold zFull at hf; grind)) (fun r hr => zw_mono hr (fun q hq => ⟨hq, fun _ => by grind⟩))
      · rw [zRS_cst (bg := bg) (wa := wa) (wv0 := wv0) hn ha hT T q hf]
        rw [if_neg (by rw [q]; decide), if_neg (by rw [q]; decide), if_neg (by rw [q]; decide), if_neg (by rw [q]; decide), if_pos q]
        exact zw_mono (zSt_cst (wv0 := wv0) hn ha1 ht ho hT hx h0) (fun r hr => zw_mono hr (fun q hq => ⟨hq, fun _ => by grind⟩))
      · rw [zRS_box (bg := bg) (wa := wa) (wv0 := wv0) hn ha hT T q hf]
        rw [if_neg (by rw [q]; decide), if_neg (by rw [q]; decide), if_neg (by rw [q]; decide), if_neg (by rw [q]; decide), if_neg (by rw [q]; decide), if_pos q]
        exact zw_mono (zSt_box (wv0 := wv0) hn ha1 ht ho hT hx h0 (by rw [hF.1, hN.1] at hf; unfold zFull at hf; grind)) (fun r hr => zw_mono hr (fun q hq => ⟨hq, fun _ => by grind⟩))
      · rw [zRS_let (bg := bg) (wa := wa) (wv0 := wv0) hn ha hT T q hf]
        rw [if_neg (by rw [q]; decide), if_neg (by rw [q]; decide), if_neg (by rw [q]; decide), if_neg (by rw [q]; decide), if_neg (by rw [q]; decide), if_neg (by rw [q]; decide), if_pos q]
        exact zw_mono (zSt_let (wv0 := wv0) hn ha1 ht ho hT hx h0 (by rw [hF.1, hN.1] at hf; unfold zFull at hf; grind)) (fun r hr => zw_mono hr (fun q hq => ⟨hq, fun _ => by grind⟩))
      · rw [zRS_fix (bg := bg) (wa := wa) (wv0 := wv0) hn ha hT T q hf]
        rw [if_neg (by rw [q]; decide), if_neg (by rw [q]; decide), if_neg (by rw [q]; decide), if_neg (by rw [q]; decide), if_neg (by rw [q]; decide), if_neg (by rw [q]; decide), if_neg (by rw [q]; decide), if_neg (by rw [q]; decide), if_neg (by rw [q]; decide), if_pos q]
        exact zw_mono (zSt_fix (wv0 := wv0) hn ha1 ht ho hT hx h0) (fun r hr => zw_mono hr (fun q hq => ⟨hq, fun _ => by grind⟩))
      · rw [zRS_grp (bg := bg) (wa := wa) (wv0 := wv0) hn ha hT T q hf]
        rw [if_neg (by rw [q]; decide), if_neg (by rw [q]; decide), if_neg (by rw [q]; decide), if_neg (by rw [q]; decide), if_neg (by rw [q]; decide), if_neg (by rw [q]; decide), if_neg (by rw [q]; decide), if_neg (by rw [q]; decide), if_neg (by rw [q]; decide), if_neg (by rw [q]; decide), if_pos q]
        exact zw_mono (zSt_grp (wv0 := wv0) hn ha1 ht ho hT hx h0) (fun r hr => zw_mono hr (fun q hq => ⟨hq, fun _ => by grind⟩))
      · rw [zRS_alw (bg := bg) (wa := wa) (wv0 := wv0) hn ha hT T q hf]
        rw [if_neg (by rw [q]; decide), if_neg (by rw [q]; decide), if_neg (by rw [q]; decide), if_neg (by rw [q]; decide), if_neg (by rw [q]; decide), if_neg (by rw [q]; decide), if_neg (by rw [q]; decide), if_neg (by rw [q]; decide), if_neg (by rw [q]; decide), if_neg (by rw [q]; decide), if_neg (by rw [q]; decide)]
        exact zw_mono (zSt_alw (wv0 := wv0) hn ha1 ht ho hT hx h0) (fun r hr => zw_mono hr (fun q hq => ⟨hq, fun _ => by grind⟩))
  · obtain ⟨z, b', hm⟩ := zRS_1 (p := p) (bg := bg) (wa := wa) (wv0 := wv0) (mF := mF) (mN := mN) (mNF := mNF) (mNN := mNN) (mS := mS) (mM := mM) (mC := mC) (mW := mW) (mCst := mCst) (mO := mO) (m1 := m1) (m2 := m2) (mX := mX) (mG := mG) (mA := mA) (mB := mB) hn ha hT T hb
    rw [hm, (zStarts_n hb).1]
    simp only [zb_some]
    rw [if_pos trivial]
    exact zw_some (zw_some ⟨Or.inr ⟨⟨rfl, show ¬ (1 : Int32) = 0 by decide, rfl, rfl⟩, zFR_rf⟩, fun q => absurd rfl q⟩)
set_option maxRecDepth 100000 in
noncomputable def zB5 (len n : Int32) (f own : Nat → Int32) (s_9 : Int32 × Int32 × Int32 × Int32 × Int32 × Int32 × Int32 × Int32 × Int32 × Int32 × Int32 × Int32 × Int32 × (Nat → Int32) × (Nat → Int32) × (Nat → Int32) × (Nat → Int32) × (Nat → Int32) × (Nat → Int32) × (Nat → Int32) × (Nat → Int32) × (Nat → Int32) × (Nat → Int32) × (Nat → Int32) × (Nat → Int32)) (back_9 : (Int32 × Int32 × Int32 × Int32 × Int32 × Int32 × Int32 × Int32 × Int32 × Int32 × Int32 × Int32 × Int32 × (Nat → Int32) × (Nat → Int32) × (Nat → Int32) × (Nat → Int32) × (Nat → Int32) × (Nat → Int32) × (Nat → Int32) × (Nat → Int32) × (Nat → Int32) × (Nat → Int32) × (Nat → Int32) × (Nat → Int32)) → Option (Int32 × Int32 × Int32 × Int32 × Int32 × Int32 × Int32 × Int32 × Int32 × Int32 × Int32 × Int32 × Int32 × Int32 × (Nat → Int32) × (Nat → Int32) × (Nat → Int32) × (Nat → Int32) × (Nat → Int32) × (Nat → Int32) × (Nat → Int32) × (Nat → Int32) × (Nat → Int32) × (Nat → Int32) × (Nat → Int32) × (Nat → Int32))) : Option (Int32 × Int32 × Int32 × Int32 × Int32 × Int32 × Int32 × Int32 × Int32 × Int32 × Int32 × Int32 × Int32 × Int32 × (Nat → Int32) × (Nat → Int32) × (Nat → Int32) × (Nat → Int32) × (Nat → Int32) × (Nat → Int32) × (Nat → Int32) × (Nat → Int32) × (Nat → Int32) × (Nat → Int32) × (Nat → Int32) × (Nat → Int32)) := (zj (fun (s_10 : Unit) => (zj (fun (s_11 : Int32) => (if s_11 = 0 then (zb (fn_X5_stopAt 4 len) (fun o_13 => (if o_13.1 = 0 then (some ((0 : Int32), s_9.2.1, o_13.2.1, o_13.2.2, s_9.2.2.2.2.1, s_9.2.2.2.2.2.1, s_9.2.2.2.2.2.2.2.2.2.2.2.1, s_9.2.2.2.2.2.2.2.2.2.2.2.2.1, n, s_9.2.2.2.2.2.2.1, s_9.2.2.2.2.2.2.2.1, s_9.2.2.2.2.2.2.2.2.1, s_9.2.2.2.2.2.2.2.2.2.1, s_9.2.2.2.2.2.2.2.2.2.2.1, s_9.2.2.2.2.2.2.2.2.2.2.2.2.2.1, s_9.2.2.2.2.2.2.2.2.2.2.2.2.2.2.2.2.2.1, s_9.2.2.2.2.2.2.2.2.2.2.2.2.2.2.1, s_9.2.2.2.2.2.2.2.2.2.2.2.2.2.2.2.1, s_9.2.2.2.2.2.2.2.2.2.2.2.2.2.2.2.2.1, s_9.2.2.2.2.2.2.2.2.2.2.2.2.2.2.2.2.2.2.2.2.1, s_9.2.2.2.2.2.2.2.2.2.2.2.2.2.2.2.2.2.2.2.2.2.2.2.1, s_9.2.2.2.2.2.2.2.2.2.2.2.2.2.2.2.2.2.2.2.2.2.2.2.2, s_9.2.2.2.2.2.2.2.2.2.2.2.2.2.2.2.2.2.2.1, s_9.2.2.2.2.2.2.2.2.2.2.2.2.2.2.2.2.2.2.2.1, s_9.2.2.2.2.2.2.2.2.2.2.2.2.2.2.2.2.2.2.2.2.2.2.1, s_9.2.2.2.2.2.2.2.2.2.2.2.2.2.2.2.2.2.2.2.2.2.1)) else (some ((1 : Int32), s_9.2.1, o_13.2.1, o_13.2.2, s_9.2.2.2.2.1, s_9.2.2.2.2.2.1, s_9.2.2.2.2.2.2.2.2.2.2.2.1, s_9.2.2.2.2.2.2.2.2.2.2.2.2.1, n, s_9.2.2.2.2.2.2.1, s_9.2.2.2.2.2.2.2.1, s_9.2.2.2.2.2.2.2.2.1, s_9.2.2.2.2.2.2.2.2.2.1, s_9.2.2.2.2.2.2.2.2.2.2.1, s_9.2.2.2.2.2.2.2.2.2.2.2.2.2.1, s_9.2.2.2.2.2.2.2.2.2.2.2.2.2.2.2.2.2.1, s_9.2.2.2.2.2.2.2.2.2.2.2.2.2.2.1, s_9.2.2.2.2.2.2.2.2.2.2.2.2.2.2.2.1, s_9.2.2.2.2.2.2.2.2.2.2.2.2.2.2.2.2.1, s_9.2.2.2.2.2.2.2.2.2.2.2.2.2.2.2.2.2.2.2.2.1, s_9.2.2.2.2.2.2.2.2.2.2.2.2.2.2.2.2.2.2.2.2.2.2.2.1, s_9.2.2.2.2.2.2.2.2.2.2.2.2.2.2.2.2.2.2.2.2.2.2.2.2, s_9.2.2.2.2.2.2.2.2.2.2.2.2.2.2.2.2.2.2.1, s_9.2.2.2.2.2.2.2.2.2.2.2.2.2.2.2.2.2.2.2.1, s_9.2.2.2.2.2.2.2.2.2.2.2.2.2.2.2.2.2.2.2.2.2.2.1, s_9.2.2.2.2.2.2.2.2.2.2.2.2.2.2.2.2.2.2.2.2.2.1))))) else (some ((1 : Int32), s_9.2.1, s_9.2.2.1, s_9.2.2.2.1, s_9.2.2.2.2.1, s_9.2.2.2.2.2.1, s_9.2.2.2.2.2.2.2.2.2.2.2.1, s_9.2.2.2.2.2.2.2.2.2.2.2.2.1, n, s_9.2.2.2.2.2.2.1, s_9.2.2.2.2.2.2.2.1, s_9.2.2.2.2.2.2.2.2.1, s_9.2.2.2.2.2.2.2.2.2.1, s_9.2.2.2.2.2.2.2.2.2.2.1, s_9.2.2.2.2.2.2.2.2.2.2.2.2.2.1, s_9.2.2.2.2.2.2.2.2.2.2.2.2.2.2.2.2.2.1, s_9.2.2.2.2.2.2.2.2.2.2.2.2.2.2.1, s_9.2.2.2.2.2.2.2.2.2.2.2.2.2.2.2.1, s_9.2.2.2.2.2.2.2.2.2.2.2.2.2.2.2.2.1, s_9.2.2.2.2.2.2.2.2.2.2.2.2.2.2.2.2.2.2.2.2.1, s_9.2.2.2.2.2.2.2.2.2.2.2.2.2.2.2.2.2.2.2.2.2.2.2.1, s_9.2.2.2.2.2.2.2.2.2.2.2.2.2.2.2.2.2.2.2.2.2.2.2.2, s_9.2.2.2.2.2.2.2.2.2.2.2.2.2.2.2.2.2.2.1, s_9.2.2.2.2.2.2.2.2.2.2.2.2.2.2.2.2.2.2.2.1, s_9.2.2.2.2.2.2.2.2.2.2.2.2.2.2.2.2.2.2.2.2.2.2.1, s_9.2.2.2.2.2.2.2.2.2.2.2.2.2.2.2.2.2.2.2.2.2.1)))) (fun j_11 => (zj (fun (s_18 : Unit) => (j_11 0)) (fun j_18 => (if s_9.2.2.2.2.1 ≤ 0 then (j_18 ()) else (if s_9.2.2.2.2.2.2.2.2.2.2.2.1 ≤ 0 then (j_18 ()) else (j_11 1)))))))) (fun j_10 => (if 40 < s_9.1 then (j_10 ()) else (if s_9.2.2.2.2.2.2.2.1 = 0 then (j_10 ()) else (zb (fn_X5_readStatement s_9.1 s_9.2.1 s_9.2.2.1 s_9.2.2.2.1 n s_9.2.2.2.2.2.2.1 s_9.2.2.2.2.2.2.2.1 s_9.2.2.2.2.2.2.2.2.1 s_9.2.2.2.2.2.2.2.2.2.1 s_9.2.2.2.2.2.2.2.2.2.2.1 s_9.2.2.2.2.1 s_9.2.2.2.2.2.1 s_9.2.2.2.2.2.2.2.2.2.2.2.1 s_9.2.2.2.2.2.2.2.2.2.2.2.2.1 f own s_9.2.2.2.2.2.2.2.2.2.2.2.2.2.1 s_9.2.2.2.2.2.2.2.2.2.2.2.2.2.2.2.2.2.1 s_9.2.2.2.2.2.2.2.2.2.2.2.2.2.2.1 s_9.2.2.2.2.2.2.2.2.2.2.2.2.2.2.2.1 s_9.2.2.2.2.2.2.2.2.2.2.2.2.2.2.2.2.1 s_9.2.2.2.2.2.2.2.2.2.2.2.2.2.2.2.2.2.2.2.2.1 s_9.2.2.2.2.2.2.2.2.2.2.2.2.2.2.2.2.2.2.2.2.2.2.2.1 s_9.2.2.2.2.2.2.2.2.2.2.2.2.2.2.2.2.2.2.2.2.2.2.2.2 s_9.2.2.2.2.2.2.2.2.2.2.2.2.2.2.2.2.2.2.1 s_9.2.2.2.2.2.2.2.2.2.2.2.2.2.2.2.2.2.2.2.1 s_9.2.2.2.2.2.2.2.2.2.2.2.2.2.2.2.2.2.2.2.2.2.2.1 s_9.2.2.2.2.2.2.2.2.2.2.2.2.2.2.2.2.2.2.2.2.2.1) (fun o_23 => (if o_23.1 = 0 then (some ((0 : Int32), o_23.2.1, o_23.2.2.1, o_23.2.2.2.1, o_23.2.2.2.2.2.2.2.2.2.1, o_23.2.2.2.2.2.2.2.2.2.2.1, o_23.2.2.2.2.2.2.2.2.2.2.2.1, o_23.2.2.2.2.2.2.2.2.2.2.2.2.1, n, o_23.2.2.2.2.1, o_23.2.2.2.2.2.1, o_23.2.2.2.2.2.2.1, o_23.2.2.2.2.2.2.2.1, o_23.2.2.2.2.2.2.2.2.1, o_23.2.2.2.2.2.2.2.2.2.2.2.2.2.1, o_23.2.2.2.2.2.2.2.2.2.2.2.2.2.2.1, o_23.2.2.2.2.2.2.2.2.2.2.2.2.2.2.2.1, o_23.2.2.2.2.2.2.2.2.2.2.2.2.2.2.2.2.1, o_23.2.2.2.2.2.2.2.2.2.2.2.2.2.2.2.2.2.1, o_23.2.2.2.2.2.2.2.2.2.2.2.2.2.2.2.2.2.2.1, o_23.2.2.2.2.2.2.2.2.2.2.2.2.2.2.2.2.2.2.2.1, o_23.2.2.2.2.2.2.2.2.2.2.2.2.2.2.2.2.2.2.2.2.1, o_23.2.2.2.2.2.2.2.2.2.2.2.2.2.2.2.2.2.2.2.2.2.1, o_23.2.2.2.2.2.2.2.2.2.2.2.2.2.2.2.2.2.2.2.2.2.2.1, o_23.2.2.2.2.2.2.2.2.2.2.2.2.2.2.2.2.2.2.2.2.2.2.2.1, o_23.2.2.2.2.2.2.2.2.2.2.2.2.2.2.2.2.2.2.2.2.2.2.2.2)) else (back_9 ((s_9.1 + 1), o_23.2.1, o_23.2.2.1, o_23.2.2.2.1, o_23.2.2.2.2.2.2.2.2.2.1, o_23.2.2.2.2.2.2.2.2.2.2.1, o_23.2.2.2.2.1, o_23.2.2.2.2.2.1, o_23.2.2.2.2.2.2.1, o_23.2.2.2.2.2.2.2.1, o_23.2.2.2.2.2.2.2.2.1, o_23.2.2.2.2.2.2.2.2.2.2.2.1, o_23.2.2.2.2.2.2.2.2.2.2.2.2.1, o_23.2.2.2.2.2.2.2.2.2.2.2.2.2.1, o_23.2.2.2.2.2.2.2.2.2.2.2.2.2.2.2.1, o_23.2.2.2.2.2.2.2.2.2.2.2.2.2.2.2.2.1, o_23.2.2.2.2.2.2.2.2.2.2.2.2.2.2.2.2.2.1, o_23.2.2.2.2.2.2.2.2.2.2.2.2.2.2.1, o_23.2.2.2.2.2.2.2.2.2.2.2.2.2.2.2.2.2.2.2.2.2.1, o_23.2.2.2.2.2.2.2.2.2.2.2.2.2.2.2.2.2.2.2.2.2.2.1, o_23.2.2.2.2.2.2.2.2.2.2.2.2.2.2.2.2.2.2.1, o_23.2.2.2.2.2.2.2.2.2.2.2.2.2.2.2.2.2.2.2.2.2.2.2.2, o_23.2.2.2.2.2.2.2.2.2.2.2.2.2.2.2.2.2.2.2.2.2.2.2.1, o_23.2.2.2.2.2.2.2.2.2.2.2.2.2.2.2.2.2.2.2.1, o_23.2.2.2.2.2.2.2.2.2.2.2.2.2.2.2.2.2.2.2.2.1)))))))))
set_option maxRecDepth 100000 in
noncomputable def zB12 (v0_1 : Int32) (v0_38 : Int32) (v0_58 : Int32) (v0_59 : Int32) (f4 : Nat → Int32) (f5 : Nat → Int32) (f19 : Nat → Int32) (f20 : Nat → Int32) (s_1 : Int32 × Int64 × Int32 × Int32 × Int32 × Int32 × (Nat → Int32) × (Nat → Int32) × (Nat → Int32) × (Nat → Int32) × (Nat → Int32) × (Nat → Int32) × (Nat → Int32) × (Nat → Int32) × (Nat → Int32) × (Nat → Int32) × (Nat → Int64) × (Nat → Int64) × (Nat → Int32) × (Nat → Int32) × (Nat → Int32) × (Nat → Int32)) (back_1 : (Int32 × Int64 × Int32 × Int32 × Int32 × Int32 × (Nat → Int32) × (Nat → Int32) × (Nat → Int32) × (Nat → Int32) × (Nat → Int32) × (Nat → Int32) × (Nat → Int32) × (Nat → Int32) × (Nat → Int32) × (Nat → Int32) × (Nat → Int64) × (Nat → Int64) × (Nat → Int32) × (Nat → Int32) × (Nat → Int32) × (Nat → Int32)) → Option (Int32 × Int32 × Int32 × Int64 × Int32 × Int32 × Int32 × Int32 × Int32 × Int32 × Int32 × Int32 × Int32 × Int32 × (Nat → Int32) × (Nat → Int32) × (Nat → Int32) × (Nat → Int32) × (Nat → Int32) × (Nat → Int32) × (Nat → Int32) × (Nat → Int32) × (Nat → Int32) × (Nat → Int32) × (Nat → Int32) × (Nat → Int32) × (Nat → Int32) × (Nat → Int32) × (Nat → Int64) × (Nat → Int64) × (Nat → Int32) × (Nat → Int32))) : Option (Int32 × Int32 × Int32 × Int64 × Int32 × Int32 × Int32 × Int32 × Int32 × Int32 × Int32 × Int32 × Int32 × Int32 × (Nat → Int32) × (Nat → Int32) × (Nat → Int32) × (Nat → Int32) × (Nat → Int32) × (Nat → Int32) × (Nat → Int32) × (Nat → Int32) × (Nat → Int32) × (Nat → Int32) × (Nat → Int32) × (Nat → Int32) × (Nat → Int32) × (Nat → Int32) × (Nat → Int64) × (Nat → Int64) × (Nat → Int32) × (Nat → Int32)) := (zb (fn_X12_goesWell s_1.2.2.2.2.1) (fun o_2 => (zj (fun (s_6 : Int32) => (zb (fn_X12_goesWell s_1.2.2.2.2.1) (fun o_7 => (zj (fun (s_11 : Int32 × Int32) => (if s_11.1 = 0 then (zb (fn_X12_copiesTask s_1.2.2.2.2.2.2.1 s_1.2.2.2.2.2.2.2.2.2.2.2.1 s_1.2.2.2.2.2.2.2.2.2.2.2.2.2.2.2.2.2.2.1 s_1.2.2.2.2.2.2.2.1 s_1.2.2.2.2.2.2.2.2.1 s_1.2.2.2.2.2.2.2.2.2.1 s_1.2.2.2.2.2.2.2.2.2.2.1 s_1.2.2.2.2.2.2.2.2.2.2.2.2.1 s_1.2.2.2.2.2.2.2.2.2.2.2.2.2.1 s_1.2.2.2.2.2.2.2.2.2.2.2.2.2.2.1 s_1.2.2.2.2.2.2.2.2.2.2.2.2.2.2.2.1 s_1.2.2.2.2.2.2.2.2.2.2.2.2.2.2.2.2.1 s_1.2.2.2.2.2.2.2.2.2.2.2.2.2.2.2.2.2.1 s_1.2.2.2.2.2.2.2.2.2.2.2.2.2.2.2.2.2.2.2.1 s_1.2.2.2.2.2.2.2.2.2.2.2.2.2.2.2.2.2.2.2.2.1 s_1.2.2.2.2.2.2.2.2.2.2.2.2.2.2.2.2.2.2.2.2.2) (fun o_13 => (zb (fn_X12_beginsChoice o_13.2.1 f19 o_13.2.2.2.2.2.2.2.2.2.2.2.2.2.1 o_13.2.2.2.2.2.2.2.2.2.2.2.2.2.2.2) (fun o_17 => (some ((o_13.2.1 (0 : Int32).toNatClampNeg), (0 : Int32), (0 : Int32), s_1.2.1, s_11.1, o_17.1, s_11.2, v0_1, ((-1) : Int32), ((-1) : Int32), s_6, s_1.2.2.2.1, s_11.1, s_11.2, o_13.1, o_13.2.1, o_13.2.2.1, o_13.2.2.2.1, o_13.2.2.2.2.2.2.2.1, o_13.2.2.2.2.1, o_13.2.2.2.2.2.1, o_13.2.2.2.2.2.2.1, o_13.2.2.2.2.2.2.2.2.2.2.2.2.2.2.1, o_13.2.2.2.2.2.2.2.2.1, o_13.2.2.2.2.2.2.2.2.2.1, o_13.2.2.2.2.2.2.2.2.2.2.1, o_13.2.2.2.2.2.2.2.2.2.2.2.2.2.1, o_13.2.2.2.2.2.2.2.2.2.2.2.2.2.2.2, o_13.2.2.2.2.2.2.2.2.2.2.2.1, o_13.2.2.2.2.2.2.2.2.2.2.2.2.1, o_17.2, f20)))))) else (zb (fn_X12_refuses 1 f20) (fun o_21 => (some (o_21.1, (0 : Int32), (0 : Int32), s_1.2.1, s_11.1, v0_38, s_11.2, v0_1, v0_58, v0_59, s_6, s_1.2.2.2.1, s_11.1, s_11.2, s_1.2.2.2.2.2.2.1, s_1.2.2.2.2.2.2.2.2.2.2.2.1, s_1.2.2.2.2.2.2.2.2.2.2.2.2.2.2.2.2.2.2.1, s_1.2.2.2.2.2.2.2.1, s_1.2.2.2.2.2.2.2.2.2.2.2.2.1, s_1.2.2.2.2.2.2.2.2.1, s_1.2.2.2.2.2.2.2.2.2.1, s_1.2.2.2.2.2.2.2.2.2.2.1, s_1.2.2.2.2.2.2.2.2.2.2.2.2.2.2.2.2.2.2.2.2.1, s_1.2.2.2.2.2.2.2.2.2.2.2.2.2.1, s_1.2.2.2.2.2.2.2.2.2.2.2.2.2.2.1, s_1.2.2.2.2.2.2.2.2.2.2.2.2.2.2.2.1, s_1.2.2.2.2.2.2.2.2.2.2.2.2.2.2.2.2.2.2.2.1, s_1.2.2.2.2.2.2.2.2.2.2.2.2.2.2.2.2.2.2.2.2.2, s_1.2.2.2.2.2.2.2.2.2.2.2.2.2.2.2.2.1, s_1.2.2.2.2.2.2.2.2.2.2.2.2.2.2.2.2.2.1, f19, o_21.2)))))) (fun j_11 => (if o_7 = 0 then (j_11 (s_1.2.2.2.2.1, s_1.2.2.2.2.2.1)) else (zj (fun (s_26 : Unit) => (zb (fn_X12_faults 4 v0_1 s_1.2.2.2.2.1 s_1.2.2.2.2.2.1) (fun o_27 => (j_11 (o_27.1, o_27.2))))) (fun j_26 => (if (s_1.2.2.2.2.2.2.1 (1 : Int32).toNatClampNeg) = 0 then (j_26 ()) else (if (s_1.2.2.2.2.2.2.2.2.2.2.2.1 (1 : Int32).toNatClampNeg) = 0 then (j_26 ()) else (j_11 (s_1.2.2.2.2.1, s_1.2.2.2.2.2.1)))))))))))) (fun j_6 => (if o_2 = 0 then (j_6 s_1.2.2.1) else (zb (fn_X12_here v0_1 s_1.2.2.1 f4) (fun o_34 => (if o_34.1 = (-1) then (j_6 o_34.2) else (zb (fn_X12_readsStatement s_1.1 v0_1 o_34.2 s_1.2.2.2.1 s_1.2.2.2.2.1 s_1.2.2.2.2.2.1 1 s_1.2.1 f4 f5 s_1.2.2.2.2.2.2.1 s_1.2.2.2.2.2.2.2.2.2.2.2.1 s_1.2.2.2.2.2.2.2.1 s_1.2.2.2.2.2.2.2.2.2.2.2.2.1 s_1.2.2.2.2.2.2.2.2.1 s_1.2.2.2.2.2.2.2.2.2.1 s_1.2.2.2.2.2.2.2.2.2.2.1 s_1.2.2.2.2.2.2.2.2.2.2.2.2.2.2.2.2.2.2.2.2.1 s_1.2.2.2.2.2.2.2.2.2.2.2.2.2.2.2.2.2.2.1 s_1.2.2.2.2.2.2.2.2.2.2.2.2.2.1 s_1.2.2.2.2.2.2.2.2.2.2.2.2.2.2.1 s_1.2.2.2.2.2.2.2.2.2.2.2.2.2.2.2.1 s_1.2.2.2.2.2.2.2.2.2.2.2.2.2.2.2.2.2.2.2.1 s_1.2.2.2.2.2.2.2.2.2.2.2.2.2.2.2.2.2.2.2.2.2 s_1.2.2.2.2.2.2.2.2.2.2.2.2.2.2.2.2.1 s_1.2.2.2.2.2.2.2.2.2.2.2.2.2.2.2.2.2.1) (fun o_39 => (back_1 ((s_1.1 + 1), o_39.1, o_39.2.1, o_39.2.2.1, o_39.2.2.2.1, o_39.2.2.2.2.1, o_39.2.2.2.2.2.1, o_39.2.2.2.2.2.2.2.1, o_39.2.2.2.2.2.2.2.2.2.1, o_39.2.2.2.2.2.2.2.2.2.2.1, o_39.2.2.2.2.2.2.2.2.2.2.2.1, o_39.2.2.2.2.2.2.1, o_39.2.2.2.2.2.2.2.2.1, o_39.2.2.2.2.2.2.2.2.2.2.2.2.2.2.1, o_39.2.2.2.2.2.2.2.2.2.2.2.2.2.2.2.1, o_39.2.2.2.2.2.2.2.2.2.2.2.2.2.2.2.2.1, o_39.2.2.2.2.2.2.2.2.2.2.2.2.2.2.2.2.2.2.2.1, o_39.2.2.2.2.2.2.2.2.2.2.2.2.2.2.2.2.2.2.2.2, o_39.2.2.2.2.2.2.2.2.2.2.2.2.2.1, o_39.2.2.2.2.2.2.2.2.2.2.2.2.2.2.2.2.2.1, o_39.2.2.2.2.2.2.2.2.2.2.2.2.1, o_39.2.2.2.2.2.2.2.2.2.2.2.2.2.2.2.2.2.2.1))))))))))))
theorem zHereT {n a e k s v o : Int32} {f g : Nat → Int32} (hn : n ≤ 1200) (ha : 0 ≤ a ∧ a ≤ n) (T : zTok n f g a e k s v o) : fn_X12_here n a g = some (zB n g s, s) := by
  obtain ⟨r, hr, h1, h2⟩ := zHere (g := g) hn ha
  have e1 := zSk_un h1 T.1
  obtain ⟨x, y⟩ := r
  dsimp only at h1 h2 e1
  rw [hr, h2, e1]
theorem zTok_0 {n a e k s v o : Int32} {f g : Nat → Int32} (ht : zTp f g) (ha : 0 ≤ a ∧ a ≤ n) (T : zTok n f g a e k s v o) : zB n g s = (-1) ↔ k = 0 := by
  have hb := zTok_b ha T
  have hk : k = 0 ↔ zK n g s = 0 := by
    obtain ⟨_, _, _, T⟩ := T
    rcases T with ⟨q1, _, q2, _⟩ | ⟨q1, _, q2, _⟩ | ⟨q1, _, _, q2, _⟩ | ⟨q1, _, _, _, q2, _⟩ | ⟨q1, _, _, q2, _⟩ | ⟨q1, _, _, _, q2, _⟩ <;> grind
  rw [hk]
  have h1 := ht s.toNatClampNeg
  have h2 := zKd_c (g s.toNatClampNeg)
  unfold zB zK
  grind
theorem zl_inv {σ ρ : Type} {B : σ → (σ → Option ρ) → Option ρ} {P : ρ → Prop} (hB : ∀ (s : σ) (back : σ → Option ρ) (o : ρ), (∀ t o, back t = some o → P o) → B s back = some o → P o) : ∀ (n : Nat) (s : σ) (o : ρ), zl B n s = some o → P o := by
  intro n
  induction n with
  | zero => intro s o h; exact (zl_0 h).elim
  | succ n ih => intro s o h; exact hB s (zl B n) o (fun t o ht => ih t o ht) (zl_s rfl h)
theorem zTS_0 {mF mN mNF mNN mS mM mC mW mCst mO m1 m2 mX mG : Nat → Int32} {mA mB : Nat → Int64} {nF nN stp mst prc al made amt op fx jn lets : Nat → Int32} : zTS 0 1 0 0 nF nN stp mst prc al made amt op fx jn lets (upd mF 1 0) (upd mN 1 0) mNF mNN mS mM mC mW (upd mCst 1 1) mO m1 m2 mX mG mA mB := by
  have no : ∀ i : Int32, 0 ≤ i → ¬ i < 0 := fun i h q => by grind
  exact ⟨⟨rfl, by decide, by decide⟩, ⟨rfl, by decide, by decide⟩, ⟨rfl, by decide, by decide⟩, rfl, fun i h q => absurd q (no i h), fun i h q => absurd q (no i h), fun i h q => absurd q (no i h), fun i j h q => absurd q (no i h), fun i h q => absurd q (no i h)⟩
/-! loops, one alone or two side by side, where the answer is there -/
theorem zl_ip {σ ρ : Type} {B : σ → (σ → Option ρ) → Option ρ} {P : ρ → Prop} (I : σ → Prop) (hB : ∀ (s : σ) (back : σ → Option ρ) (o : ρ), I s → (∀ t o, I t → back t = some o → P o) → B s back = some o → P o) : ∀ (n : Nat) (s : σ) (o : ρ), I s → zl B n s = some o → P o := by
  intro n
  induction n with
  | zero => intro s o _ h; exact (zl_0 h).elim
  | succ n ih => intro s o hI h; exact hB s (zl B n) o hI (fun t o ht hb => ih t o ht hb) (zl_s rfl h)
theorem zl_ip2 {σ τ ρ κ : Type} {B : σ → (σ → Option ρ) → Option ρ} {D : τ → (τ → Option κ) → Option κ} {P : ρ → κ → Prop} (R : σ → τ → Prop) (hB : ∀ (s : σ) (t : τ) (k1 : σ → Option ρ) (k2 : τ → Option κ) (o1 : ρ) (o2 : κ), R s t → (∀ s t o1 o2, R s t → k1 s = some o1 → k2 t = some o2 → P o1 o2) → B s k1 = some o1 → D t k2 = some o2 → P o1 o2) : ∀ (n m : Nat) (s : σ) (t : τ) (o1 : ρ) (o2 : κ), R s t → zl B n s = some o1 → zl D m t = some o2 → P o1 o2 := by
  intro n
  induction n with
  | zero => intro m s t o1 o2 _ h _; exact (zl_0 h).elim
  | succ n ih =>
    intro m s t o1 o2 hR h1 h2
    cases m with
    | zero => exact (zl_0 h2).elim
    | succ m => exact hB s t (zl B n) (zl D m) o1 o2 hR (fun s t o1 o2 hR h1 h2 => ih m s t o1 o2 hR h1 h2) (zl_s rfl h1) (zl_s rfl h2)
/-! counts -/
noncomputable def zct (b : Nat → Bool) : Nat → Int32
  | 0 => 0
  | k + 1 => zct b k + (if b k = true then 1 else 0)
theorem zct_t {b : Nat → Bool} {p : Int32} (h0 : 0 ≤ p) (h1 : p ≤ 1200) (hb : b p.toNatClampNeg = true) : zct b (p + 1).toNatClampNeg = zct b p.toNatClampNeg + 1 := by
  rw [zNx h0 h1]
  show zct b p.toNatClampNeg + (if b p.toNatClampNeg = true then 1 else 0) = _
  rw [if_pos hb]
theorem zct_f {b : Nat → Bool} {p : Int32} (h0 : 0 ≤ p) (h1 : p ≤ 1200) (hb : ¬ b p.toNatClampNeg = true) : zct b (p + 1).toNatClampNeg = zct b p.toNatClampNeg := by
  rw [zNx h0 h1]
  show zct b p.toNatClampNeg + (if b p.toNatClampNeg = true then 1 else 0) = _
  rw [if_neg hb]
  exact Int32.add_zero _
theorem zct_b (b : Nat → Bool) : ∀ k : Nat, k ≤ 1000 → 0 ≤ (zct b k).toInt ∧ (zct b k).toInt ≤ (k : Int) := by
  intro k
  induction k with
  | zero => intro _; show 0 ≤ (0 : Int32).toInt ∧ (0 : Int32).toInt ≤ 0; rw [zi_0]; omega
  | succ k ih =>
    intro hk
    have h := ih (by omega)
    show 0 ≤ (zct b k + (if b k = true then 1 else 0)).toInt ∧ (zct b k + (if b k = true then 1 else 0)).toInt ≤ ((k + 1 : Nat) : Int)
    by_cases c : b k = true
    · rw [if_pos c]
      have := zo_add (x := zct b k) (y := 1) (z := zct b k + 1) rfl rfl zi_1' (by omega)
      omega
    · rw [if_neg c]
      have := zo_add (x := zct b k) (y := 0) (z := zct b k + 0) rfl rfl zi_0 (by omega)
      omega
theorem zct_m (b : Nat → Bool) (k : Nat) : ∀ j : Nat, k + j ≤ 1000 → (zct b k).toInt ≤ (zct b (k + j)).toInt := by
  intro j
  induction j with
  | zero => intro _; exact Int.le_refl _
  | succ j ih =>
    intro hk
    have h := ih (by omega)
    have hb := zct_b b (k + j) (by omega)
    have e : zct b (k + (j + 1)) = zct b (k + j) + (if b (k + j) = true then 1 else 0) := rfl
    by_cases c : b (k + j) = true
    · rw [if_pos c] at e
      have := zo_add (x := zct b (k + j)) (y := 1) e rfl zi_1' (by omega)
      omega
    · rw [if_neg c] at e
      have := zo_add (x := zct b (k + j)) (y := 0) e rfl zi_0 (by omega)
      omega
theorem zct_c {a b : Nat → Bool} : ∀ k : Nat, (∀ j : Nat, j < k → a j = b j) → zct a k = zct b k := by
  intro k
  induction k with
  | zero => intro _; rfl
  | succ k ih =>
    intro h
    show zct a k + (if a k = true then 1 else 0) = zct b k + (if b k = true then 1 else 0)
    rw [ih (fun j hj => h j (by omega)), h k (by omega)]
theorem zcl' {p c : Int32} (h0 : 0 ≤ p) (h1 : p < c) : p.toNatClampNeg < c.toNatClampNeg := by
  have a := Int32.le_iff_toInt_le.mp h0
  have b := Int32.lt_iff_toInt_lt.mp h1
  rw [zi_0] at a
  show p.toInt.toNat < c.toInt.toNat
  omega
theorem zcle {p c : Int32} (h0 : 0 ≤ p) (h1 : p ≤ c) : p.toNatClampNeg ≤ c.toNatClampNeg := by
  have a := Int32.le_iff_toInt_le.mp h0
  have b := Int32.le_iff_toInt_le.mp h1
  rw [zi_0] at a
  show p.toInt.toNat ≤ c.toInt.toNat
  omega
/-- each place below a count is one of 32 bits -/
theorem zof {k : Nat} {c : Int32} (h0 : 0 ≤ c) (h : k < c.toNatClampNeg) : 0 ≤ Int32.ofNat k ∧ Int32.ofNat k < c ∧ (Int32.ofNat k).toNatClampNeg = k := by
  have hc := (zofn c h0).2
  have hl := Int32.toInt_lt c
  have e : (Int32.ofNat k).toInt = (k : Int) := Int32.toInt_ofNat_of_lt (by omega)
  refine ⟨Int32.le_iff_toInt_le.mpr (by rw [zi_0, e]; omega), Int32.lt_iff_toInt_lt.mpr (by rw [e]; omega), ?_⟩
  show (Int32.ofNat k).toInt.toNat = k
  omega
theorem zct_b32 {b : Nat → Bool} {p : Int32} (h0 : 0 ≤ p) (h1 : p ≤ 14) : 0 ≤ zct b p.toNatClampNeg ∧ zct b p.toNatClampNeg ≤ p := by
  have hp := (zofn p h0).2
  have h2 := Int32.le_iff_toInt_le.mp h1
  rw [show (14 : Int32).toInt = 14 by decide +kernel] at h2
  have h := zct_b b p.toNatClampNeg (by omega)
  exact ⟨Int32.le_iff_toInt_le.mpr (by rw [zi_0]; exact h.1), Int32.le_iff_toInt_le.mpr (by omega)⟩
theorem zct_m32 {b : Nat → Bool} {p q : Int32} (h0 : 0 ≤ p) (h1 : p ≤ q) (h2 : q ≤ 14) : zct b p.toNatClampNeg ≤ zct b q.toNatClampNeg := by
  have hp := (zofn p h0).2
  have hq := (zofn q (by grind)).2
  have k1 := Int32.le_iff_toInt_le.mp h1
  have k2 := Int32.le_iff_toInt_le.mp h2
  rw [show (14 : Int32).toInt = 14 by decide +kernel] at k2
  have h := zct_m b p.toNatClampNeg (q.toNatClampNeg - p.toNatClampNeg) (by omega)
  rw [show p.toNatClampNeg + (q.toNatClampNeg - p.toNatClampNeg) = q.toNatClampNeg by omega] at h
  exact Int32.le_iff_toInt_le.mpr h
/-! a TASK that is at hand -/
noncomputable def zF0 (cF : Int32) (nF stp mst prc mNF mS mM mC : Nat → Int32) : Prop := ∀ i : Int32, 0 ≤ i → i < cF → zNm (nF i.toNatClampNeg) (mNF i.toNatClampNeg) ∧ stp i.toNatClampNeg = mS i.toNatClampNeg ∧ mst i.toNatClampNeg = mM i.toNatClampNeg ∧ prc i.toNatClampNeg = mC i.toNatClampNeg ∧ (1 ≤ stp i.toNatClampNeg ∧ stp i.toNatClampNeg ≤ 1000000) ∧ (1 ≤ mst i.toNatClampNeg ∧ mst i.toNatClampNeg ≤ 1000000000) ∧ (0 ≤ prc i.toNatClampNeg ∧ prc i.toNatClampNeg ≤ 999)
noncomputable def zN01 (i cF : Int32) (nN op fx al made amt lets mNN mO m1 m2 mX mW : Nat → Int32) (mA mB : Nat → Int64) : Prop :=
  zNm (nN i.toNatClampNeg) (mNN i.toNatClampNeg) ∧ op i.toNatClampNeg = mO i.toNatClampNeg ∧ fx i.toNatClampNeg = mX i.toNatClampNeg ∧ al i.toNatClampNeg = mW i.toNatClampNeg
  ∧ made (2 * i + 0).toNatClampNeg = m1 i.toNatClampNeg ∧ made (2 * i + 1).toNatClampNeg = m2 i.toNatClampNeg ∧ mA i.toNatClampNeg = (amt (2 * i + 0).toNatClampNeg).toInt64 ∧ mB i.toNatClampNeg = (amt (2 * i + 1).toNatClampNeg).toInt64
  ∧ (0 ≤ op i.toNatClampNeg ∧ op i.toNatClampNeg ≤ 5) ∧ ((-1) ≤ fx i.toNatClampNeg ∧ fx i.toNatClampNeg < cF) ∧ ((-1) ≤ al i.toNatClampNeg ∧ al i.toNatClampNeg ≤ 1000000)
  ∧ ((-1) ≤ made (2 * i + 0).toNatClampNeg ∧ made (2 * i + 0).toNatClampNeg < i) ∧ ((-1) ≤ made (2 * i + 1).toNatClampNeg ∧ made (2 * i + 1).toNatClampNeg < i)
  ∧ ((-10000000) ≤ amt (2 * i + 0).toNatClampNeg ∧ amt (2 * i + 0).toNatClampNeg ≤ 10000000) ∧ ((-10000000) ≤ amt (2 * i + 1).toNatClampNeg ∧ amt (2 * i + 1).toNatClampNeg ≤ 10000000)
  ∧ (op i.toNatClampNeg = 0 → made (2 * i + 0).toNatClampNeg = (-1) ∧ made (2 * i + 1).toNatClampNeg = (-1) ∧ amt (2 * i + 0).toNatClampNeg ≤ amt (2 * i + 1).toNatClampNeg)
  ∧ lets i.toNatClampNeg = zDeep (op i.toNatClampNeg) i made lets
noncomputable def zN0 (cN cF : Int32) (nN op fx al made amt lets mNN mO m1 m2 mX mW : Nat → Int32) (mA mB : Nat → Int64) : Prop := ∀ i : Int32, 0 ≤ i → i < cN → zN01 i cF nN op fx al made amt lets mNN mO m1 m2 mX mW mA mB
noncomputable def zG0 (cN : Int32) (jn mG : Nat → Int32) : Prop := (∀ i : Int32, 0 ≤ i → i < cN → 0 ≤ mG i.toNatClampNeg ∧ mG i.toNatClampNeg ≤ i ∧ mG (mG i.toNatClampNeg).toNatClampNeg = mG i.toNatClampNeg) ∧ (∀ i j : Int32, 0 ≤ i → i < cN → 0 ≤ j → j < cN → (jn i.toNatClampNeg = jn j.toNatClampNeg ↔ mG i.toNatClampNeg = mG j.toNatClampNeg))
noncomputable def zTN (cF cc cN inp : Int32) (nF nN stp mst prc al made amt op fx jn lets : Nat → Int32) (mF mN mNF mNN mS mM mC mW mCst mO m1 m2 mX mG : Nat → Int32) (mA mB : Nat → Int64) : Prop := (mF 0 = cF ∧ 0 ≤ cF ∧ cF ≤ 4) ∧ (mN 0 = cN ∧ 0 ≤ cN ∧ cN ≤ 14) ∧ (mCst 0 = cc ∧ 0 ≤ cc ∧ cc ≤ 999) ∧ (cN = 0 → cc = 0) ∧ (0 < cN → 0 < cF) ∧ inp = zCnt op cN.toNatClampNeg ∧ zF0 cF nF stp mst prc mNF mS mM mC ∧ zN0 cN cF nN op fx al made amt lets mNN mO m1 m2 mX mW mA mB ∧ zG0 cN jn mG
/-! the TASK that was read comes to be the one at hand -/
noncomputable def zCq (d k : Int32) (S T : Nat → Int32) : Prop := (∀ i : Int32, 0 ≤ i → i < k → T i.toNatClampNeg = S (d + i).toNatClampNeg) ∧ (∀ i : Int32, d ≤ i → T i.toNatClampNeg = S i.toNatClampNeg)
noncomputable def zCqL (d k : Int32) (S T : Nat → Int64) : Prop := (∀ i : Int32, 0 ≤ i → i < k → T i.toNatClampNeg = S (d + i).toNatClampNeg) ∧ (∀ i : Int32, d ≤ i → T i.toNatClampNeg = S i.toNatClampNeg)
theorem zCq_0 {d : Int32} {S : Nat → Int32} : zCq d 0 S S := ⟨fun i i1 i2 => absurd i2 (by grind), fun _ _ => rfl⟩
theorem zCqL_0 {d : Int32} {S : Nat → Int64} : zCqL d 0 S S := ⟨fun i i1 i2 => absurd i2 (by grind), fun _ _ => rfl⟩
theorem zCq_s {d k : Int32} {S T : Nat → Int32} (hd : 0 ≤ d ∧ d ≤ 14) (hk : 0 ≤ k ∧ k < d) (h : zCq d k S T) : zCq d (k + 1) S (upd T k.toNatClampNeg (T (d + k).toNatClampNeg)) := by
  refine ⟨fun i i1 i2 => ?_, fun i i1 => ?_⟩
  · rw [zup hk.1 i1]
    by_cases q : i = k
    · rw [if_pos q, q]; exact h.2 (d + k) (by grind)
    · rw [if_neg q]; exact h.1 i i1 (by grind)
  · rw [zup hk.1 (by grind), if_neg (by grind)]; exact h.2 i i1
theorem zCqL_s {d k : Int32} {S T : Nat → Int64} (hd : 0 ≤ d ∧ d ≤ 14) (hk : 0 ≤ k ∧ k < d) (h : zCqL d k S T) : zCqL d (k + 1) S (vp_updL T k.toNatClampNeg (T (d + k).toNatClampNeg)) := by
  refine ⟨fun i i1 i2 => ?_, fun i i1 => ?_⟩
  · rw [zupL hk.1 i1]
    by_cases q : i = k
    · rw [if_pos q, q]; exact h.2 (d + k) (by grind)
    · rw [if_neg q]; exact h.1 i i1 (by grind)
  · rw [zupL hk.1 (by grind), if_neg (by grind)]; exact h.2 i i1
noncomputable def zCpP (mF mN mCst mNF mNN mS mM mC mW mO m1 m2 mX mG : Nat → Int32) (mA mB : Nat → Int64) (x : (Nat → Int32) × (Nat → Int32) × (Nat → Int32) × (Nat → Int32) × (Nat → Int32) × (Nat → Int32) × (Nat → Int32) × (Nat → Int32) × (Nat → Int32) × (Nat → Int32) × (Nat → Int32) × (Nat → Int64) × (Nat → Int64) × (Nat → Int32) × (Nat → Int32) × (Nat → Int32)) : Prop := x.1 0 = mF 1 ∧ x.2.1 0 = mN 1 ∧ x.2.2.1 0 = mCst 1 ∧ zCq 4 4 mNF x.2.2.2.1 ∧ zCq 4 4 mS x.2.2.2.2.1 ∧ zCq 4 4 mM x.2.2.2.2.2.1 ∧ zCq 4 4 mC x.2.2.2.2.2.2.1 ∧ zCq 14 14 mNN x.2.2.2.2.2.2.2.1 ∧ zCq 14 14 mO x.2.2.2.2.2.2.2.2.1 ∧ zCq 14 14 m1 x.2.2.2.2.2.2.2.2.2.1 ∧ zCq 14 14 m2 x.2.2.2.2.2.2.2.2.2.2.1 ∧ zCqL 14 14 mA x.2.2.2.2.2.2.2.2.2.2.2.1 ∧ zCqL 14 14 mB x.2.2.2.2.2.2.2.2.2.2.2.2.1 ∧ zCq 14 14 mX x.2.2.2.2.2.2.2.2.2.2.2.2.2.1 ∧ zCq 14 14 mW x.2.2.2.2.2.2.2.2.2.2.2.2.2.2.1 ∧ zCq 14 14 mG x.2.2.2.2.2.2.2.2.2.2.2.2.2.2.2
set_option maxRecDepth 100000 in
set_option maxHeartbeats 4000000 in
theorem zCopy {mF mN mCst mNF mNN mS mM mC mW mO m1 m2 mX mG : Nat → Int32} {mA mB : Nat → Int64} {x : (Nat → Int32) × (Nat → Int32) × (Nat → Int32) × (Nat → Int32) × (Nat → Int32) × (Nat → Int32) × (Nat → Int32) × (Nat → Int32) × (Nat → Int32) × (Nat → Int32) × (Nat → Int32) × (Nat → Int64) × (Nat → Int64) × (Nat → Int32) × (Nat → Int32) × (Nat → Int32)} (h : fn_X12_copiesTask mF mN mCst mNF mS mM mC mNN mO m1 m2 mA mB mX mW mG = some x) : zCpP mF mN mCst mNF mNN mS mM mC mW mO m1 m2 mX mG mA mB x := by
  unfold fn_X12_copiesTask at h
  simp only [zn] at h
  refine zl_ip (P := zCpP mF mN mCst mNF mNN mS mM mC mW mO m1 m2 mX mG mA mB) (fun s => 0 ≤ s.1 ∧ s.1 ≤ 4 ∧ zCq 4 s.1 mNF s.2.1 ∧ zCq 4 s.1 mS s.2.2.1 ∧ zCq 4 s.1 mM s.2.2.2.1 ∧ zCq 4 s.1 mC s.2.2.2.2) ?_ _ _ _ ?_ h
  rotate_left
  · exact ⟨(show (0 : Int32) ≤ 0 by decide), (show (0 : Int32) ≤ 4 by decide), zCq_0, zCq_0, zCq_0, zCq_0⟩
  intro s back o ⟨H1, H2, A1, A2, A3, A4⟩ hb ho
  by_cases c : 4 ≤ s.1
  · rw [if_pos c] at ho
    have e : s.1 = 4 := by grind
    rw [e] at A1 A2 A3 A4
    refine zl_ip (P := zCpP mF mN mCst mNF mNN mS mM mC mW mO m1 m2 mX mG mA mB) (fun t => 0 ≤ t.1 ∧ t.1 ≤ 14 ∧ zCq 14 t.1 mNN t.2.1 ∧ zCq 14 t.1 mO t.2.2.1 ∧ zCq 14 t.1 m1 t.2.2.2.1 ∧ zCq 14 t.1 m2 t.2.2.2.2.1 ∧ zCqL 14 t.1 mA t.2.2.2.2.2.1 ∧ zCqL 14 t.1 mB t.2.2.2.2.2.2.1 ∧ zCq 14 t.1 mX t.2.2.2.2.2.2.2.1 ∧ zCq 14 t.1 mW t.2.2.2.2.2.2.2.2.1 ∧ zCq 14 t.1 mG t.2.2.2.2.2.2.2.2.2) ?_ _ _ _ ?_ ho
    rotate_left
    · exact ⟨(show (0 : Int32) ≤ 0 by decide), (show (0 : Int32) ≤ 14 by decide), zCq_0, zCq_0, zCq_0, zCq_0, zCqL_0, zCqL_0, zCq_0, zCq_0, zCq_0⟩
    intro t back' o' ⟨K1, K2, B1, B2, B3, B4, B5, B6, B7, B8, B9⟩ hb' ho'
    by_cases c' : 14 ≤ t.1
    · rw [if_pos c'] at ho'
      have e' : t.1 = 14 := by grind
      rw [e'] at B1 B2 B3 B4 B5 B6 B7 B8 B9
      rw [← Option.some.inj ho']
      have u1 : upd mF (0 : Int32).toNatClampNeg (mF (1 : Int32).toNatClampNeg) 0 = mF 1 := by rw [zn01.1, zn01.2]; exact if_pos rfl
      have u2 : upd mN (0 : Int32).toNatClampNeg (mN (1 : Int32).toNatClampNeg) 0 = mN 1 := by rw [zn01.1, zn01.2]; exact if_pos rfl
      have u3 : upd mCst (0 : Int32).toNatClampNeg (mCst (1 : Int32).toNatClampNeg) 0 = mCst 1 := by rw [zn01.1, zn01.2]; exact if_pos rfl
      exact ⟨u1, u2, u3, A1, A2, A3, A4, B1, B2, B3, B4, B5, B6, B7, B8, B9⟩
    · rw [if_neg c'] at ho'
      obtain ⟨-, ho'⟩ := zg_s ho'
      obtain ⟨-, ho'⟩ := zg_s ho'
      have kk : 0 ≤ t.1 ∧ t.1 < 14 := ⟨K1, by grind⟩
      have dd : (0 : Int32) ≤ 14 ∧ (14 : Int32) ≤ 14 := by decide
      have E1 := zCq_s dd kk B1
      have E2 := zCq_s dd kk B2
      have E3 := zCq_s dd kk B3
      have E4 := zCq_s dd kk B4
      have E5 := zCqL_s dd kk B5
      have E6 := zCqL_s dd kk B6
      have E7 := zCq_s dd kk B7
      have E8 := zCq_s dd kk B8
      have E9 := zCq_s dd kk B9
      have l1 : 0 ≤ t.1 + 1 := by grind
      have l2 : t.1 + 1 ≤ 14 := by grind
      refine hb' _ _ ?_ ho'
      exact ⟨l1, l2, E1, E2, E3, E4, E5, E6, E7, E8, E9⟩
  · rw [if_neg c] at ho
    obtain ⟨-, ho⟩ := zg_s ho
    obtain ⟨-, ho⟩ := zg_s ho
    have kk : 0 ≤ s.1 ∧ s.1 < 4 := ⟨H1, by grind⟩
    have dd : (0 : Int32) ≤ 4 ∧ (4 : Int32) ≤ 14 := by decide
    have E1 := zCq_s dd kk A1
    have E2 := zCq_s dd kk A2
    have E3 := zCq_s dd kk A3
    have E4 := zCq_s dd kk A4
    have l1 : 0 ≤ s.1 + 1 := by grind
    have l2 : s.1 + 1 ≤ 4 := by grind
    refine hb _ _ ?_ ho
    exact ⟨l1, l2, E1, E2, E3, E4⟩
theorem zTN_of {cF cc cN inp : Int32} {nF nN stp mst prc al made amt op fx jn lets : Nat → Int32} {mF mN mNF mNN mS mM mC mW mCst mO m1 m2 mX mG : Nat → Int32} {mA mB : Nat → Int64} {x : (Nat → Int32) × (Nat → Int32) × (Nat → Int32) × (Nat → Int32) × (Nat → Int32) × (Nat → Int32) × (Nat → Int32) × (Nat → Int32) × (Nat → Int32) × (Nat → Int32) × (Nat → Int32) × (Nat → Int64) × (Nat → Int64) × (Nat → Int32) × (Nat → Int32) × (Nat → Int32)} (h : fn_X12_copiesTask mF mN mCst mNF mS mM mC mNN mO m1 m2 mA mB mX mW mG = some x) (hR : zTS cF cc cN inp nF nN stp mst prc al made amt op fx jn lets mF mN mNF mNN mS mM mC mW mCst mO m1 m2 mX mG mA mB) (h1 : ¬ mF 1 = 0) (h2 : ¬ mN 1 = 0) : zTN cF cc cN inp nF nN stp mst prc al made amt op fx jn lets x.1 x.2.1 x.2.2.2.1 x.2.2.2.2.2.2.2.1 x.2.2.2.2.1 x.2.2.2.2.2.1 x.2.2.2.2.2.2.1 x.2.2.2.2.2.2.2.2.2.2.2.2.2.2.1 x.2.2.1 x.2.2.2.2.2.2.2.2.1 x.2.2.2.2.2.2.2.2.2.1 x.2.2.2.2.2.2.2.2.2.2.1 x.2.2.2.2.2.2.2.2.2.2.2.2.2.1 x.2.2.2.2.2.2.2.2.2.2.2.2.2.2.2 x.2.2.2.2.2.2.2.2.2.2.2.1 x.2.2.2.2.2.2.2.2.2.2.2.2.1 := by
  obtain ⟨⟨a1, a2, a3⟩, ⟨b1, b2, b3⟩, ⟨c1, c2, c3⟩, hi, hf, hn, hg⟩ := hR
  obtain ⟨k1, k2, k3, kNF, kS, kM, kC, kNN, kO, k1', k2', kA, kB, kX, kW, kG⟩ := zCopy h
  refine ⟨⟨k1.trans a1, a2, a3⟩, ⟨k2.trans b1, b2, b3⟩, ⟨k3.trans c1, c2, c3⟩, fun q => absurd (b1.trans q) h2, fun _ => by grind, hi, fun i i1 i2 => ?_, fun i i1 i2 => ?_, fun i i1 i2 => ?_, fun i j i1 i2 j1 j2 => ?_⟩
  · obtain ⟨q1, q2, q3, q4, q5, q6, q7⟩ := hf i i1 i2
    rw [kNF.1 i i1 (by grind), kS.1 i i1 (by grind), kM.1 i i1 (by grind), kC.1 i i1 (by grind)]
    exact ⟨q1, q2, q3, q4, q5, q6, q7⟩
  · have i3 : i < 14 := by grind
    unfold zN01
    rw [kNN.1 i i1 i3, kO.1 i i1 i3, kX.1 i i1 i3, kW.1 i i1 i3, k1'.1 i i1 i3, k2'.1 i i1 i3, kA.1 i i1 i3, kB.1 i i1 i3]
    exact hn i i1 i2
  · have i3 : i < 14 := by grind
    obtain ⟨q1, q2, q3⟩ := hg.1 i i1 i2
    rw [kG.1 i i1 i3]
    refine ⟨q1, q2, ?_⟩
    rw [kG.1 _ q1 (by grind)]
    exact q3
  · rw [kG.1 i i1 (by grind), kG.1 j j1 (by grind)]
    exact hg.2.1 i j i1 i2 j1 j2
theorem zFR_tr {mF mN mNF mNN mS mM mC mW mCst mO m1 m2 mX mG : Nat → Int32} {mA mB : Nat → Int64} {nF nN nNF nNN nS nM nC nW nCst nO n1 n2 nX nG : Nat → Int32} {nA nB : Nat → Int64} {pF pN pNF pNN pS pM pC pW pCst pO p1 p2 pX pG : Nat → Int32} {pA pB : Nat → Int64} (h : zFR mF mN mNF mNN mS mM mC mW mCst mO m1 m2 mX mG mA mB nF nN nNF nNN nS nM nC nW nCst nO n1 n2 nX nG nA nB) (k : zFR nF nN nNF nNN nS nM nC nW nCst nO n1 n2 nX nG nA nB pF pN pNF pNN pS pM pC pW pCst pO p1 p2 pX pG pA pB) : zFR mF mN mNF mNN mS mM mC mW mCst mO m1 m2 mX mG mA mB pF pN pNF pNN pS pM pC pW pCst pO p1 p2 pX pG pA pB := by
  obtain ⟨a1, a2, a3, a4, a5, a6, a7, a8, a9, a10, a11, a12, a13, a14, a15, a16⟩ := h
  obtain ⟨b1, b2, b3, b4, b5, b6, b7, b8, b9, b10, b11, b12, b13, b14, b15, b16⟩ := k
  exact ⟨b1.trans a1, b2.trans a2, fun y hy => (b3 y hy).trans (a3 y hy), fun y hy => (b4 y hy).trans (a4 y hy), fun y hy => (b5 y hy).trans (a5 y hy), fun y hy => (b6 y hy).trans (a6 y hy), fun y hy => (b7 y hy).trans (a7 y hy), fun y hy => (b8 y hy).trans (a8 y hy), b9.trans a9, fun y hy => (b10 y hy).trans (a10 y hy), fun y hy => (b11 y hy).trans (a11 y hy), fun y hy => (b12 y hy).trans (a12 y hy), fun y hy => (b13 y hy).trans (a13 y hy), fun y hy => (b14 y hy).trans (a14 y hy), fun y hy => (b15 y hy).trans (a15 y hy), fun y hy => (b16 y hy).trans (a16 y hy)⟩
/-- what doesn't touch the TASK at hand keeps it -/
theorem zTN_fr {cF cc cN inp : Int32} {nF nN stp mst prc al made amt op fx jn lets : Nat → Int32} {mF mN mNF mNN mS mM mC mW mCst mO m1 m2 mX mG : Nat → Int32} {mA mB : Nat → Int64} {pF pN pNF pNN pS pM pC pW pCst pO p1 p2 pX pG : Nat → Int32} {pA pB : Nat → Int64} (h : zTN cF cc cN inp nF nN stp mst prc al made amt op fx jn lets mF mN mNF mNN mS mM mC mW mCst mO m1 m2 mX mG mA mB) (k : zFR mF mN mNF mNN mS mM mC mW mCst mO m1 m2 mX mG mA mB pF pN pNF pNN pS pM pC pW pCst pO p1 p2 pX pG pA pB) : zTN cF cc cN inp nF nN stp mst prc al made amt op fx jn lets pF pN pNF pNN pS pM pC pW pCst pO p1 p2 pX pG pA pB := by
  obtain ⟨⟨a1, a2, a3⟩, ⟨b1, b2, b3⟩, ⟨c1, c2, c3⟩, hz, hp, hi, hf, hn, hg⟩ := h
  obtain ⟨kF, kN, kNF, kNN, kS, kM, kC, kW, kCst, kO, k1', k2', kX, kG, kA, kB⟩ := k
  have l4 : ∀ i : Int32, 0 ≤ i → i < cF → i.toNatClampNeg < 4 := fun i i1 i2 => by have := zcl' (c := 4) i1 (by grind); rw [show (4 : Int32).toNatClampNeg = 4 by decide +kernel] at this; exact this
  have l14 : ∀ i : Int32, 0 ≤ i → i < 14 → i.toNatClampNeg < 14 := fun i i1 i2 => by have := zcl' (c := 14) i1 i2; rw [show (14 : Int32).toNatClampNeg = 14 by decide +kernel] at this; exact this
  refine ⟨⟨kF.trans a1, a2, a3⟩, ⟨kN.trans b1, b2, b3⟩, ⟨kCst.trans c1, c2, c3⟩, hz, hp, hi, fun i i1 i2 => ?_, fun i i1 i2 => ?_, fun i i1 i2 => ?_, fun i j i1 i2 j1 j2 => ?_⟩
  · have l := l4 i i1 i2
    rw [kNF _ l, kS _ l, kM _ l, kC _ l]
    exact hf i i1 i2
  · have l := l14 i i1 (by grind)
    unfold zN01
    rw [kNN _ l, kO _ l, kX _ l, kW _ l, k1' _ l, k2' _ l, kA _ l, kB _ l]
    exact hn i i1 i2
  · obtain ⟨q1, q2, q3⟩ := hg.1 i i1 i2
    rw [kG _ (l14 i i1 (by grind))]
    refine ⟨q1, q2, ?_⟩
    rw [kG _ (l14 _ q1 (by grind))]
    exact q3
  · rw [kG _ (l14 i i1 (by grind)), kG _ (l14 j j1 (by grind))]
    exact hg.2 i j i1 i2 j1 j2
/-! task() of both: what comes to be at hand -/
noncomputable def zRR2 (hh ba bw : Int32) (mH mRf : Nat → Int32) (mF mN mNF mNN mS mM mC mW mCst mO m1 m2 mX mG : Nat → Int32) (mA mB : Nat → Int64) (r : Int32 × Int32 × Int32 × Int32 × Int32 × Int32 × Int32 × Int32 × Int32 × Int32 × Int32 × Int32 × Int32 × Int32 × (Nat → Int32) × (Nat → Int32) × (Nat → Int32) × (Nat → Int32) × (Nat → Int32) × (Nat → Int32) × (Nat → Int32) × (Nat → Int32) × (Nat → Int32) × (Nat → Int32) × (Nat → Int32) × (Nat → Int32)) (q : Int32 × Int32 × Int32 × Int64 × Int32 × Int32 × Int32 × Int32 × Int32 × Int32 × Int32 × Int32 × Int32 × Int32 × (Nat → Int32) × (Nat → Int32) × (Nat → Int32) × (Nat → Int32) × (Nat → Int32) × (Nat → Int32) × (Nat → Int32) × (Nat → Int32) × (Nat → Int32) × (Nat → Int32) × (Nat → Int32) × (Nat → Int32) × (Nat → Int32) × (Nat → Int32) × (Nat → Int64) × (Nat → Int64) × (Nat → Int32) × (Nat → Int32)) : Prop :=
  (r.1 = 0 ∧ q.1 = (-1) ∧ q.2.2.2.2.1 = r.2.2.1 ∧ q.2.2.2.2.2.2.1 = r.2.2.2.1 ∧ zFR mF mN mNF mNN mS mM mC mW mCst mO m1 m2 mX mG mA mB q.2.2.2.2.2.2.2.2.2.2.2.2.2.2.1 q.2.2.2.2.2.2.2.2.2.2.2.2.2.2.2.1 q.2.2.2.2.2.2.2.2.2.2.2.2.2.2.2.2.2.1 q.2.2.2.2.2.2.2.2.2.2.2.2.2.2.2.2.2.2.1 q.2.2.2.2.2.2.2.2.2.2.2.2.2.2.2.2.2.2.2.1 q.2.2.2.2.2.2.2.2.2.2.2.2.2.2.2.2.2.2.2.2.1 q.2.2.2.2.2.2.2.2.2.2.2.2.2.2.2.2.2.2.2.2.2.1 q.2.2.2.2.2.2.2.2.2.2.2.2.2.2.2.2.2.2.2.2.2.2.1 q.2.2.2.2.2.2.2.2.2.2.2.2.2.2.2.2.1 q.2.2.2.2.2.2.2.2.2.2.2.2.2.2.2.2.2.2.2.2.2.2.2.1 q.2.2.2.2.2.2.2.2.2.2.2.2.2.2.2.2.2.2.2.2.2.2.2.2.1 q.2.2.2.2.2.2.2.2.2.2.2.2.2.2.2.2.2.2.2.2.2.2.2.2.2.1 q.2.2.2.2.2.2.2.2.2.2.2.2.2.2.2.2.2.2.2.2.2.2.2.2.2.2.1 q.2.2.2.2.2.2.2.2.2.2.2.2.2.2.2.2.2.2.2.2.2.2.2.2.2.2.2.1 q.2.2.2.2.2.2.2.2.2.2.2.2.2.2.2.2.2.2.2.2.2.2.2.2.2.2.2.2.1 q.2.2.2.2.2.2.2.2.2.2.2.2.2.2.2.2.2.2.2.2.2.2.2.2.2.2.2.2.2.1 ∧ q.2.2.2.2.2.2.2.2.2.2.2.2.2.2.2.2.2.2.2.2.2.2.2.2.2.2.2.2.2.2.1 = mH ∧ q.2.2.2.2.2.1 = hh ∧ q.2.2.2.2.2.2.2.2.1 = ba ∧ q.2.2.2.2.2.2.2.2.2.1 = bw ∧ q.2.2.2.2.2.2.2.2.2.2.2.2.2.2.2.2.2.2.2.2.2.2.2.2.2.2.2.2.2.2.2 = upd mRf 1 (mRf 1 + 1))
  ∨ (r.1 = 1 ∧ q.1 = r.2.2.2.2.2.2.1 ∧ q.2.2.2.2.1 = 0 ∧ q.2.2.2.2.2.2.1 = (-1) ∧ r.2.2.1 = 0 ∧ r.2.2.2.1 = (-1) ∧ 0 < r.2.2.2.2.2.2.1 ∧ zTN r.2.2.2.2.1 r.2.2.2.2.2.1 r.2.2.2.2.2.2.1 r.2.2.2.2.2.2.2.1 r.2.2.2.2.2.2.2.2.2.2.2.2.2.2.1 r.2.2.2.2.2.2.2.2.2.2.2.2.2.2.2.1 r.2.2.2.2.2.2.2.2.2.2.2.2.2.2.2.2.1 r.2.2.2.2.2.2.2.2.2.2.2.2.2.2.2.2.2.1 r.2.2.2.2.2.2.2.2.2.2.2.2.2.2.2.2.2.2.1 r.2.2.2.2.2.2.2.2.2.2.2.2.2.2.2.2.2.2.2.1 r.2.2.2.2.2.2.2.2.2.2.2.2.2.2.2.2.2.2.2.2.1 r.2.2.2.2.2.2.2.2.2.2.2.2.2.2.2.2.2.2.2.2.2.1 r.2.2.2.2.2.2.2.2.2.2.2.2.2.2.2.2.2.2.2.2.2.2.1 r.2.2.2.2.2.2.2.2.2.2.2.2.2.2.2.2.2.2.2.2.2.2.2.1 r.2.2.2.2.2.2.2.2.2.2.2.2.2.2.2.2.2.2.2.2.2.2.2.2.1 r.2.2.2.2.2.2.2.2.2.2.2.2.2.2.2.2.2.2.2.2.2.2.2.2.2 q.2.2.2.2.2.2.2.2.2.2.2.2.2.2.1 q.2.2.2.2.2.2.2.2.2.2.2.2.2.2.2.1 q.2.2.2.2.2.2.2.2.2.2.2.2.2.2.2.2.2.1 q.2.2.2.2.2.2.2.2.2.2.2.2.2.2.2.2.2.2.1 q.2.2.2.2.2.2.2.2.2.2.2.2.2.2.2.2.2.2.2.1 q.2.2.2.2.2.2.2.2.2.2.2.2.2.2.2.2.2.2.2.2.1 q.2.2.2.2.2.2.2.2.2.2.2.2.2.2.2.2.2.2.2.2.2.1 q.2.2.2.2.2.2.2.2.2.2.2.2.2.2.2.2.2.2.2.2.2.2.1 q.2.2.2.2.2.2.2.2.2.2.2.2.2.2.2.2.1 q.2.2.2.2.2.2.2.2.2.2.2.2.2.2.2.2.2.2.2.2.2.2.2.1 q.2.2.2.2.2.2.2.2.2.2.2.2.2.2.2.2.2.2.2.2.2.2.2.2.1 q.2.2.2.2.2.2.2.2.2.2.2.2.2.2.2.2.2.2.2.2.2.2.2.2.2.1 q.2.2.2.2.2.2.2.2.2.2.2.2.2.2.2.2.2.2.2.2.2.2.2.2.2.2.1 q.2.2.2.2.2.2.2.2.2.2.2.2.2.2.2.2.2.2.2.2.2.2.2.2.2.2.2.1 q.2.2.2.2.2.2.2.2.2.2.2.2.2.2.2.2.2.2.2.2.2.2.2.2.2.2.2.2.1 q.2.2.2.2.2.2.2.2.2.2.2.2.2.2.2.2.2.2.2.2.2.2.2.2.2.2.2.2.2.1 ∧ fn_X12_beginsChoice (q.2.2.2.2.2.2.2.2.2.2.2.2.2.2.2.1) mH (q.2.2.2.2.2.2.2.2.2.2.2.2.2.2.2.2.2.2.2.2.2.2.2.2.2.2.1) (q.2.2.2.2.2.2.2.2.2.2.2.2.2.2.2.2.2.2.2.2.2.2.2.2.2.2.2.1) = some (q.2.2.2.2.2.1, q.2.2.2.2.2.2.2.2.2.2.2.2.2.2.2.2.2.2.2.2.2.2.2.2.2.2.2.2.2.2.1) ∧ q.2.2.2.2.2.2.2.2.1 = (-1) ∧ q.2.2.2.2.2.2.2.2.2.1 = (-1) ∧ q.2.2.2.2.2.2.2.2.2.2.2.2.2.2.2.2.2.2.2.2.2.2.2.2.2.2.2.2.2.2.2 = mRf)
theorem zRef1b {f20 : Nat → Int32} {x : Int32 × (Nat → Int32)} (h : fn_X12_refuses 1 f20 = some x) : x.1 = (-1) ∧ x.2 = upd f20 1 (f20 1 + 1) := by
  unfold fn_X12_refuses at h
  obtain ⟨-, h⟩ := zg_s h
  rw [← Option.some.inj h, zn01.2]
  exact ⟨rfl, rfl⟩
set_option maxRecDepth 100000 in
set_option maxHeartbeats 4000000 in
theorem zStop12b {n v0_38 v0_58 v0_59 : Int32} {g tab f19 f20 : Nat → Int32} {n2 : Nat} {cnt a bg w wa : Int32} {wv : Int64} {mF mN mNF mNN mS mM mC mW mCst mO m1 m2 mX mG : Nat → Int32} {mA mB : Nat → Int64} {q : Int32 × Int32 × Int32 × Int64 × Int32 × Int32 × Int32 × Int32 × Int32 × Int32 × Int32 × Int32 × Int32 × Int32 × (Nat → Int32) × (Nat → Int32) × (Nat → Int32) × (Nat → Int32) × (Nat → Int32) × (Nat → Int32) × (Nat → Int32) × (Nat → Int32) × (Nat → Int32) × (Nat → Int32) × (Nat → Int32) × (Nat → Int32) × (Nat → Int32) × (Nat → Int32) × (Nat → Int64) × (Nat → Int64) × (Nat → Int32) × (Nat → Int32)} (hw : ¬ w = 0) (h : zl (zB12 n v0_38 v0_58 v0_59 g tab f19 f20) n2 (cnt, wv, a, bg, w, wa, mF, mNF, mS, mM, mC, mN, mNN, mO, m1, m2, mA, mB, mCst, mX, mW, mG) = some q) : q.1 = (-1) ∧ q.2.2.2.2.1 = w ∧ q.2.2.2.2.2.2.1 = wa ∧ zFR mF mN mNF mNN mS mM mC mW mCst mO m1 m2 mX mG mA mB q.2.2.2.2.2.2.2.2.2.2.2.2.2.2.1 q.2.2.2.2.2.2.2.2.2.2.2.2.2.2.2.1 q.2.2.2.2.2.2.2.2.2.2.2.2.2.2.2.2.2.1 q.2.2.2.2.2.2.2.2.2.2.2.2.2.2.2.2.2.2.1 q.2.2.2.2.2.2.2.2.2.2.2.2.2.2.2.2.2.2.2.1 q.2.2.2.2.2.2.2.2.2.2.2.2.2.2.2.2.2.2.2.2.1 q.2.2.2.2.2.2.2.2.2.2.2.2.2.2.2.2.2.2.2.2.2.1 q.2.2.2.2.2.2.2.2.2.2.2.2.2.2.2.2.2.2.2.2.2.2.1 q.2.2.2.2.2.2.2.2.2.2.2.2.2.2.2.2.1 q.2.2.2.2.2.2.2.2.2.2.2.2.2.2.2.2.2.2.2.2.2.2.2.1 q.2.2.2.2.2.2.2.2.2.2.2.2.2.2.2.2.2.2.2.2.2.2.2.2.1 q.2.2.2.2.2.2.2.2.2.2.2.2.2.2.2.2.2.2.2.2.2.2.2.2.2.1 q.2.2.2.2.2.2.2.2.2.2.2.2.2.2.2.2.2.2.2.2.2.2.2.2.2.2.1 q.2.2.2.2.2.2.2.2.2.2.2.2.2.2.2.2.2.2.2.2.2.2.2.2.2.2.2.1 q.2.2.2.2.2.2.2.2.2.2.2.2.2.2.2.2.2.2.2.2.2.2.2.2.2.2.2.2.1 q.2.2.2.2.2.2.2.2.2.2.2.2.2.2.2.2.2.2.2.2.2.2.2.2.2.2.2.2.2.1 ∧ q.2.2.2.2.2.2.2.2.2.2.2.2.2.2.2.2.2.2.2.2.2.2.2.2.2.2.2.2.2.2.1 = f19 ∧ q.2.2.2.2.2.1 = v0_38 ∧ q.2.2.2.2.2.2.2.2.1 = v0_58 ∧ q.2.2.2.2.2.2.2.2.2.1 = v0_59 ∧ q.2.2.2.2.2.2.2.2.2.2.2.2.2.2.2.2.2.2.2.2.2.2.2.2.2.2.2.2.2.2.2 = upd f20 1 (f20 1 + 1) := by
  cases n2 with
  | zero => exact (zl_0 h).elim
  | succ n2 =>
    have h := zl_s rfl h
    unfold zB12 at h
    simp only [zb_some, zj, zGw_n hw, if_true, if_neg hw] at h
    obtain ⟨x, hx, h⟩ := zb_s h
    have hx1 := zRef1b hx
    rw [← Option.some.inj h]
    exact ⟨hx1.1, rfl, rfl, zFR_rf, rfl, rfl, rfl, rfl, hx1.2⟩
set_option maxRecDepth 100000 in
set_option maxHeartbeats 8000000 in
theorem zLoop2 {n v0_38 v0_58 v0_59 : Int32} {f g own tab f19 f20 : Nat → Int32} {oF oN oNF oNN oS oM oC oW oCst oO o1 o2 oX oG : Nat → Int32} {oA oB : Nat → Int64} {r : Int32 × Int32 × Int32 × Int32 × Int32 × Int32 × Int32 × Int32 × Int32 × Int32 × Int32 × Int32 × Int32 × Int32 × (Nat → Int32) × (Nat → Int32) × (Nat → Int32) × (Nat → Int32) × (Nat → Int32) × (Nat → Int32) × (Nat → Int32) × (Nat → Int32) × (Nat → Int32) × (Nat → Int32) × (Nat → Int32) × (Nat → Int32)} {q : Int32 × Int32 × Int32 × Int64 × Int32 × Int32 × Int32 × Int32 × Int32 × Int32 × Int32 × Int32 × Int32 × Int32 × (Nat → Int32) × (Nat → Int32) × (Nat → Int32) × (Nat → Int32) × (Nat → Int32) × (Nat → Int32) × (Nat → Int32) × (Nat → Int32) × (Nat → Int32) × (Nat → Int32) × (Nat → Int32) × (Nat → Int32) × (Nat → Int32) × (Nat → Int32) × (Nat → Int64) × (Nat → Int64) × (Nat → Int32) × (Nat → Int32)} (hn : 0 ≤ n ∧ n ≤ 1200) (ht : zTp f g) (ho : ∀ w : Nat, w < 13 → own w = zOwT w) (hT : (∀ k : Nat, k < 71 → tab k = zTab k)) : ∀ (n1 n2 : Nat) (cnt got e k s v o a bg : Int32) (wv : Int64) (cF cc cN inp : Int32) (nF nN stp mst prc al made amt op fx jn lets : Nat → Int32) (mF mN mNF mNN mS mM mC mW mCst mO m1 m2 mX mG : Nat → Int32) (mA mB : Nat → Int64), (0 ≤ cnt ∧ cnt ≤ 40) → (0 ≤ a ∧ a ≤ n) → zTok n f g a e k s v o → zTS cF cc cN inp nF nN stp mst prc al made amt op fx jn lets mF mN mNF mNN mS mM mC mW mCst mO m1 m2 mX mG mA mB → zFR oF oN oNF oNN oS oM oC oW oCst oO o1 o2 oX oG oA oB mF mN mNF mNN mS mM mC mW mCst mO m1 m2 mX mG mA mB → zl (zB5 n n f own) n1 (cnt, got, 0, (-1), cF, cc, e, k, s, v, o, cN, inp, nF, stp, mst, prc, nN, op, fx, al, lets, jn, made, amt) = some r → zl (zB12 n v0_38 v0_58 v0_59 g tab f19 f20) n2 (cnt, wv, a, bg, 0, (-1), mF, mNF, mS, mM, mC, mN, mNN, mO, m1, m2, mA, mB, mCst, mX, mW, mG) = some q → zRR2 v0_38 v0_58 v0_59 f19 f20 oF oN oNF oNN oS oM oC oW oCst oO o1 o2 oX oG oA oB r q := by
  intro n1
  induction n1 with
  | zero => intro n2 cnt got e k s v o a bg wv cF cc cN inp nF nN stp mst prc al made amt op fx jn lets mF mN mNF mNN mS mM mC mW mCst mO m1 m2 mX mG mA mB _ _ _ _ _ h; exact (zl_0 h).elim
  | succ n1 ih =>
    intro n2 cnt got e k s v o a bg wv cF cc cN inp nF nN stp mst prc al made amt op fx jn lets mF mN mNF mNN mS mM mC mW mCst mO m1 m2 mX mG mA mB hc ha T hR hfr0 h1 h2
    cases n2 with
    | zero => exact (zl_0 h2).elim
    | succ n2 =>
      have h1 := zl_s rfl h1
      have h2 := zl_s rfl h2
      have hR0 := hR
      obtain ⟨hF, hN, hC, hI, hfm, hnu, hgr⟩ := hR
      have h10 : ¬ (1 : Int32) = 0 := by decide
      have h40 : ¬ 40 < cnt := by grind
      have hz0 := zTok_0 ht ha T
      have hb := zTok_b ha T
      unfold zB5 at h1
      unfold zB12 at h2
      simp only [zj, if_neg h40] at h1
      simp only [zb_some, zj, zGw_0, if_neg h10, zHereT hn.2 ha T] at h2
      by_cases hk : k = 0
      · rw [if_pos hk] at h1
        simp only [hz0.mpr hk, if_true, zn01.2, zn01.1] at h2
        have st5 : fn_X5_stopAt 4 n = some (0, 4, n) := rfl
        simp only [st5, zb_some, if_true, if_neg h10] at h1
        by_cases z : mF 1 = 0 ∨ mN 1 = 0
        · have e1 : r.1 = 0 ∧ r.2.2.1 = 4 ∧ r.2.2.2.1 = n := by
            by_cases z1 : cF ≤ 0
            · rw [if_pos z1] at h1
              rw [← Option.some.inj h1]
              exact ⟨rfl, rfl, rfl⟩
            · rw [if_neg z1, if_pos (by grind)] at h1
              rw [← Option.some.inj h1]
              exact ⟨rfl, rfl, rfl⟩
          have h44 : ¬ (4 : Int32) = 0 := by decide
          have e2 : q.1 = (-1) ∧ q.2.2.2.2.1 = 4 ∧ q.2.2.2.2.2.2.1 = n ∧ zFR oF oN oNF oNN oS oM oC oW oCst oO o1 o2 oX oG oA oB q.2.2.2.2.2.2.2.2.2.2.2.2.2.2.1 q.2.2.2.2.2.2.2.2.2.2.2.2.2.2.2.1 q.2.2.2.2.2.2.2.2.2.2.2.2.2.2.2.2.2.1 q.2.2.2.2.2.2.2.2.2.2.2.2.2.2.2.2.2.2.1 q.2.2.2.2.2.2.2.2.2.2.2.2.2.2.2.2.2.2.2.1 q.2.2.2.2.2.2.2.2.2.2.2.2.2.2.2.2.2.2.2.2.1 q.2.2.2.2.2.2.2.2.2.2.2.2.2.2.2.2.2.2.2.2.2.1 q.2.2.2.2.2.2.2.2.2.2.2.2.2.2.2.2.2.2.2.2.2.2.1 q.2.2.2.2.2.2.2.2.2.2.2.2.2.2.2.2.1 q.2.2.2.2.2.2.2.2.2.2.2.2.2.2.2.2.2.2.2.2.2.2.2.1 q.2.2.2.2.2.2.2.2.2.2.2.2.2.2.2.2.2.2.2.2.2.2.2.2.1 q.2.2.2.2.2.2.2.2.2.2.2.2.2.2.2.2.2.2.2.2.2.2.2.2.2.1 q.2.2.2.2.2.2.2.2.2.2.2.2.2.2.2.2.2.2.2.2.2.2.2.2.2.2.1 q.2.2.2.2.2.2.2.2.2.2.2.2.2.2.2.2.2.2.2.2.2.2.2.2.2.2.2.1 q.2.2.2.2.2.2.2.2.2.2.2.2.2.2.2.2.2.2.2.2.2.2.2.2.2.2.2.2.1 q.2.2.2.2.2.2.2.2.2.2.2.2.2.2.2.2.2.2.2.2.2.2.2.2.2.2.2.2.2.1 ∧ q.2.2.2.2.2.2.2.2.2.2.2.2.2.2.2.2.2.2.2.2.2.2.2.2.2.2.2.2.2.2.1 = f19 ∧ q.2.2.2.2.2.1 = v0_38 ∧ q.2.2.2.2.2.2.2.2.1 = v0_58 ∧ q.2.2.2.2.2.2.2.2.2.1 = v0_59 ∧ q.2.2.2.2.2.2.2.2.2.2.2.2.2.2.2.2.2.2.2.2.2.2.2.2.2.2.2.2.2.2.2 = upd f20 1 (f20 1 + 1) := by
            by_cases z1 : mF 1 = 0
            · simp only [if_pos z1, zFl_0, zb_some, if_neg h44] at h2
              obtain ⟨x, hx, h2⟩ := zb_s h2
              have hx1 := zRef1b hx
              rw [← Option.some.inj h2]
              exact ⟨hx1.1, rfl, rfl, hfr0, rfl, rfl, rfl, rfl, hx1.2⟩
            · simp only [if_neg z1, if_pos (z.resolve_left z1), zFl_0, zb_some, if_neg h44] at h2
              obtain ⟨x, hx, h2⟩ := zb_s h2
              have hx1 := zRef1b hx
              rw [← Option.some.inj h2]
              exact ⟨hx1.1, rfl, rfl, hfr0, rfl, rfl, rfl, rfl, hx1.2⟩
          exact Or.inl ⟨e1.1, e2.1, e2.2.1.trans e1.2.1.symm, e2.2.2.1.trans e1.2.2.symm, e2.2.2.2⟩
        · have z1 : ¬ mF 1 = 0 := fun w => z (Or.inl w)
          have z2 : ¬ mN 1 = 0 := fun w => z (Or.inr w)
          rw [if_neg (by grind), if_neg (by grind)] at h1
          simp only [if_neg z1, if_neg z2, if_true] at h2
          obtain ⟨x, hx, h2⟩ := zb_s h2
          obtain ⟨y, hy, h2⟩ := zb_s h2
          have htn := zTN_of hx hR0 z1 z2
          rw [← Option.some.inj h1, ← Option.some.inj h2]
          exact Or.inr ⟨rfl, htn.2.1.1, rfl, rfl, rfl, rfl, (show 0 < cN by grind), htn, hy, rfl, rfl, rfl⟩
      · rw [if_neg hk] at h1
        have hk' : ¬ zB n g s = (-1) := fun w => hk (hz0.mp w)
        simp only [if_neg hk'] at h2
        obtain ⟨r0, hr0, q0, hq0, hs0, hlt⟩ := zStmt (p := cnt) (got := got) (fk := 0) (fp := -1) (bg := bg) (wa := -1) (wv0 := wv) hn.2 ⟨hb.1, hb.2.1⟩ ht ho hT (zTok_s T) hR0 hc
        simp only [hr0, zb_some] at h1
        simp only [hq0, zb_some] at h2
        rcases hs0 with ⟨g', y, z, b', wv', C, M, rfl, rfl, hy, hts, hfr⟩ | ⟨hst, hfr⟩
        · have hlt := hlt h10
          dsimp only at h1 h2
          rw [if_neg h10] at h1
          exact ih n2 _ _ _ _ _ _ _ _ _ _ _ _ _ _ _ _ _ _ _ _ _ _ _ _ _ _ _ _ _ _ _ _ _ _ _ _ _ _ _ _ _ _ ⟨by grind, by grind⟩ hy.1 hy.2 hts (zFR_tr hfr0 hfr) h1 h2
        · rw [if_pos hst.1] at h1
          have e2 := zStop12b hst.2.1 h2
          rw [← Option.some.inj h1]
          exact Or.inl ⟨rfl, e2.1, e2.2.1.trans hst.2.2.1.symm, e2.2.2.1.trans hst.2.2.2.symm, zFR_tr (zFR_tr hfr0 hfr) e2.2.2.2.1, e2.2.2.2.2⟩
theorem zFR_0 {mF mN mNF mNN mS mM mC mW mCst mO m1 m2 mX mG : Nat → Int32} {mA mB : Nat → Int64} : zFR mF mN mNF mNN mS mM mC mW mCst mO m1 m2 mX mG mA mB (upd mF 1 0) (upd mN 1 0) mNF mNN mS mM mC mW (upd mCst 1 1) mO m1 m2 mX mG mA mB := ⟨rfl, rfl, (fun _ _ => rfl), (fun _ _ => rfl), (fun _ _ => rfl), (fun _ _ => rfl), (fun _ _ => rfl), (fun _ _ => rfl), rfl, (fun _ _ => rfl), (fun _ _ => rfl), (fun _ _ => rfl), (fun _ _ => rfl), (fun _ _ => rfl), (fun _ _ => rfl), (fun _ _ => rfl)⟩
/-- what task() leaves: nothing of a TASK, or one in both, settled -/
noncomputable def zTQ (rdy fo lr ba bw : Int32) (hand rf gof gld gfx rwd : Nat → Int32) (rlo rhi : Nat → Int64) (mHh mBa mBw : Int32) (mH mRf : Nat → Int32) (mF mN mNF mNN mS mM mC mW mCst mO m1 m2 mX mG : Nat → Int32) (mA mB : Nat → Int64) (x : Int32 × Int32 × Int32 × Int32 × Int32 × Int32 × Int32 × Int32 × Int32 × Int32 × Int32 × Int32 × Int32 × Int32 × Int32 × Int32 × Int32 × (Nat → Int32) × (Nat → Int32) × (Nat → Int32) × (Nat → Int32) × (Nat → Int32) × (Nat → Int32) × (Nat → Int32) × (Nat → Int32) × (Nat → Int32) × (Nat → Int32) × (Nat → Int32) × (Nat → Int32) × Int32 × Int32 × Int32 × (Nat → Int32) × (Nat → Int32) × (Nat → Int32) × (Nat → Int64) × (Nat → Int64) × (Nat → Int32) × (Nat → Int32) × Int32 × Int32 × Int32 × Int32 × Int32 × (Nat → Int32)) (y : Int32 × Int32 × Int32 × Int64 × Int32 × Int32 × Int32 × Int32 × Int32 × Int32 × Int32 × Int32 × Int32 × Int32 × (Nat → Int32) × (Nat → Int32) × (Nat → Int32) × (Nat → Int32) × (Nat → Int32) × (Nat → Int32) × (Nat → Int32) × (Nat → Int32) × (Nat → Int32) × (Nat → Int32) × (Nat → Int32) × (Nat → Int32) × (Nat → Int32) × (Nat → Int32) × (Nat → Int64) × (Nat → Int64) × (Nat → Int32) × (Nat → Int32)) : Prop :=
  (x.2.2.1 = 0 ∧ x.2.2.2.1 = 1 ∧ zFR mF mN mNF mNN mS mM mC mW mCst mO m1 m2 mX mG mA mB y.2.2.2.2.2.2.2.2.2.2.2.2.2.2.1 y.2.2.2.2.2.2.2.2.2.2.2.2.2.2.2.1 y.2.2.2.2.2.2.2.2.2.2.2.2.2.2.2.2.2.1 y.2.2.2.2.2.2.2.2.2.2.2.2.2.2.2.2.2.2.1 y.2.2.2.2.2.2.2.2.2.2.2.2.2.2.2.2.2.2.2.1 y.2.2.2.2.2.2.2.2.2.2.2.2.2.2.2.2.2.2.2.2.1 y.2.2.2.2.2.2.2.2.2.2.2.2.2.2.2.2.2.2.2.2.2.1 y.2.2.2.2.2.2.2.2.2.2.2.2.2.2.2.2.2.2.2.2.2.2.1 y.2.2.2.2.2.2.2.2.2.2.2.2.2.2.2.2.1 y.2.2.2.2.2.2.2.2.2.2.2.2.2.2.2.2.2.2.2.2.2.2.2.1 y.2.2.2.2.2.2.2.2.2.2.2.2.2.2.2.2.2.2.2.2.2.2.2.2.1 y.2.2.2.2.2.2.2.2.2.2.2.2.2.2.2.2.2.2.2.2.2.2.2.2.2.1 y.2.2.2.2.2.2.2.2.2.2.2.2.2.2.2.2.2.2.2.2.2.2.2.2.2.2.1 y.2.2.2.2.2.2.2.2.2.2.2.2.2.2.2.2.2.2.2.2.2.2.2.2.2.2.2.1 y.2.2.2.2.2.2.2.2.2.2.2.2.2.2.2.2.2.2.2.2.2.2.2.2.2.2.2.2.1 y.2.2.2.2.2.2.2.2.2.2.2.2.2.2.2.2.2.2.2.2.2.2.2.2.2.2.2.2.2.1 ∧ x.2.2.2.2.2.2.2.2.2.2.2.2.2.2.2.2.2.2.2.2.2.2.2.2.2.2.2.2.2.2.2.2.2.2.2.2.2.2.1 = hand ∧ y.2.2.2.2.2.2.2.2.2.2.2.2.2.2.2.2.2.2.2.2.2.2.2.2.2.2.2.2.2.2.1 = mH ∧ y.2.2.2.2.2.1 = mHh ∧ y.2.2.2.2.2.2.2.2.1 = mBa ∧ y.2.2.2.2.2.2.2.2.2.1 = mBw ∧ x.2.2.2.2.2.2.2.2.2.2.2.2.2.2.2.2.2.2.2.2.2.2.2.2.2.2.2.2.2.2.2.2.2.2.2.2.2.2.2.2.2.2.1 = ba ∧ x.2.2.2.2.2.2.2.2.2.2.2.2.2.2.2.2.2.2.2.2.2.2.2.2.2.2.2.2.2.2.2.2.2.2.2.2.2.2.2.2.2.2.2.1 = bw ∧ x.2.2.2.2.2.2.2.2.2.2.2.2.2.2.2.2.2.2.2.2.2.2.2.2.2.2.2.2.2.2.2.2.2.2.2.2.2.2.2.1 = rdy ∧ x.2.2.2.2.2.2.2.2.2.2.2.2.2.2.2.2.2.2.2.2.2.2.2.2.2.2.2.2.2.2.2.2.2.2.2.2.2.2.2.2.1 = fo ∧ x.2.2.2.2.2.2.2.2.2.2.2.2.2.2.2.2.2.2.2.2.2.2.2.2.2.2.2.2.2.2.2.2.2.2.2.2.2.2.2.2.2.1 = lr ∧ x.2.2.2.2.2.2.2.2.2.2.2.2.2.2.2.2.2.2.2.2.2.2.2.2.2.2.2.2.2.2.2.2.2.2.2.2.2.2.2.2.2.2.2.2 = upd rf 1 (rf 1 + 1) ∧ y.2.2.2.2.2.2.2.2.2.2.2.2.2.2.2.2.2.2.2.2.2.2.2.2.2.2.2.2.2.2.2 = upd mRf 1 (mRf 1 + 1))
  ∨ (x.2.2.1 = 1 ∧ x.2.2.2.1 = 0 ∧ 0 < x.2.2.2.2.2.2.2.2.2.1 ∧ zTN x.2.2.2.2.2.2.2.1 x.2.2.2.2.2.2.2.2.1 x.2.2.2.2.2.2.2.2.2.1 x.2.2.2.2.2.2.2.2.2.2.1 x.2.2.2.2.2.2.2.2.2.2.2.2.2.2.2.2.2.1 x.2.2.2.2.2.2.2.2.2.2.2.2.2.2.2.2.2.2.1 x.2.2.2.2.2.2.2.2.2.2.2.2.2.2.2.2.2.2.2.1 x.2.2.2.2.2.2.2.2.2.2.2.2.2.2.2.2.2.2.2.2.1 x.2.2.2.2.2.2.2.2.2.2.2.2.2.2.2.2.2.2.2.2.2.1 x.2.2.2.2.2.2.2.2.2.2.2.2.2.2.2.2.2.2.2.2.2.2.1 x.2.2.2.2.2.2.2.2.2.2.2.2.2.2.2.2.2.2.2.2.2.2.2.1 x.2.2.2.2.2.2.2.2.2.2.2.2.2.2.2.2.2.2.2.2.2.2.2.2.1 x.2.2.2.2.2.2.2.2.2.2.2.2.2.2.2.2.2.2.2.2.2.2.2.2.2.1 x.2.2.2.2.2.2.2.2.2.2.2.2.2.2.2.2.2.2.2.2.2.2.2.2.2.2.1 x.2.2.2.2.2.2.2.2.2.2.2.2.2.2.2.2.2.2.2.2.2.2.2.2.2.2.2.1 x.2.2.2.2.2.2.2.2.2.2.2.2.2.2.2.2.2.2.2.2.2.2.2.2.2.2.2.2.1 y.2.2.2.2.2.2.2.2.2.2.2.2.2.2.1 y.2.2.2.2.2.2.2.2.2.2.2.2.2.2.2.1 y.2.2.2.2.2.2.2.2.2.2.2.2.2.2.2.2.2.1 y.2.2.2.2.2.2.2.2.2.2.2.2.2.2.2.2.2.2.1 y.2.2.2.2.2.2.2.2.2.2.2.2.2.2.2.2.2.2.2.1 y.2.2.2.2.2.2.2.2.2.2.2.2.2.2.2.2.2.2.2.2.1 y.2.2.2.2.2.2.2.2.2.2.2.2.2.2.2.2.2.2.2.2.2.1 y.2.2.2.2.2.2.2.2.2.2.2.2.2.2.2.2.2.2.2.2.2.2.1 y.2.2.2.2.2.2.2.2.2.2.2.2.2.2.2.2.1 y.2.2.2.2.2.2.2.2.2.2.2.2.2.2.2.2.2.2.2.2.2.2.2.1 y.2.2.2.2.2.2.2.2.2.2.2.2.2.2.2.2.2.2.2.2.2.2.2.2.1 y.2.2.2.2.2.2.2.2.2.2.2.2.2.2.2.2.2.2.2.2.2.2.2.2.2.1 y.2.2.2.2.2.2.2.2.2.2.2.2.2.2.2.2.2.2.2.2.2.2.2.2.2.2.1 y.2.2.2.2.2.2.2.2.2.2.2.2.2.2.2.2.2.2.2.2.2.2.2.2.2.2.2.1 y.2.2.2.2.2.2.2.2.2.2.2.2.2.2.2.2.2.2.2.2.2.2.2.2.2.2.2.2.1 y.2.2.2.2.2.2.2.2.2.2.2.2.2.2.2.2.2.2.2.2.2.2.2.2.2.2.2.2.2.1 ∧ fn_X9_settle (x.2.2.2.2.2.2.2.2.2.1) (x.2.2.2.2.2.2.2.2.2.2.2.2.2.2.2.2.2.2.2.2.2.2.2.2.2.2.2.1) gof gld gfx (x.2.2.2.2.2.2.2.2.2.2.2.2.2.2.2.2.2.2.2.2.2.2.2.2.2.2.1) (x.2.2.2.2.2.2.2.2.2.2.2.2.2.2.2.2.2.2.2.2.2.2.2.2.2.1) (x.2.2.2.2.2.2.2.2.2.2.2.2.2.2.2.2.2.2.2.2.2.2.2.1) (x.2.2.2.2.2.2.2.2.2.2.2.2.2.2.2.2.2.2.2.2.2.2.2.2.1) rlo rhi rwd = some (x.2.2.2.2.2.2.2.2.2.2.2.2.2.2.2.2.2.2.2.2.2.2.2.2.2.2.2.2.2.1, x.2.2.2.2.2.2.2.2.2.2.2.2.2.2.2.2.2.2.2.2.2.2.2.2.2.2.2.2.2.2.1, x.2.2.2.2.2.2.2.2.2.2.2.2.2.2.2.2.2.2.2.2.2.2.2.2.2.2.2.2.2.2.2.1, x.2.2.2.2.2.2.2.2.2.2.2.2.2.2.2.2.2.2.2.2.2.2.2.2.2.2.2.2.2.2.2.2.1, x.2.2.2.2.2.2.2.2.2.2.2.2.2.2.2.2.2.2.2.2.2.2.2.2.2.2.2.2.2.2.2.2.2.1, x.2.2.2.2.2.2.2.2.2.2.2.2.2.2.2.2.2.2.2.2.2.2.2.2.2.2.2.2.2.2.2.2.2.2.1, x.2.2.2.2.2.2.2.2.2.2.2.2.2.2.2.2.2.2.2.2.2.2.2.2.2.2.2.2.2.2.2.2.2.2.2.1, x.2.2.2.2.2.2.2.2.2.2.2.2.2.2.2.2.2.2.2.2.2.2.2.2.2.2.2.2.2.2.2.2.2.2.2.2.1, x.2.2.2.2.2.2.2.2.2.2.2.2.2.2.2.2.2.2.2.2.2.2.2.2.2.2.2.2.2.2.2.2.2.2.2.2.2.1) ∧ fn_X2_fillFree 0 x.2.2.2.2.2.2.2.2.2.2.2.2.2.2.2.2.2.2.2.2.2.2.2.2.2.2.2.2.2.1 hand x.2.2.2.2.2.2.2.2.2.2.2.2.2.2.2.2.2.2.2.2.2.2.2.2.2.2.2.2.2.2.2.2.2.2.1 = some x.2.2.2.2.2.2.2.2.2.2.2.2.2.2.2.2.2.2.2.2.2.2.2.2.2.2.2.2.2.2.2.2.2.2.2.2.2.2.1 ∧ fn_X12_beginsChoice (y.2.2.2.2.2.2.2.2.2.2.2.2.2.2.2.1) mH (y.2.2.2.2.2.2.2.2.2.2.2.2.2.2.2.2.2.2.2.2.2.2.2.2.2.2.1) (y.2.2.2.2.2.2.2.2.2.2.2.2.2.2.2.2.2.2.2.2.2.2.2.2.2.2.2.1) = some (y.2.2.2.2.2.1, y.2.2.2.2.2.2.2.2.2.2.2.2.2.2.2.2.2.2.2.2.2.2.2.2.2.2.2.2.2.2.1) ∧ y.2.2.2.2.2.2.2.2.1 = (-1) ∧ y.2.2.2.2.2.2.2.2.2.1 = (-1) ∧ x.2.2.2.2.2.2.2.2.2.2.2.2.2.2.2.2.2.2.2.2.2.2.2.2.2.2.2.2.2.2.2.2.2.2.2.2.2.2.2.2.2.2.1 = (-1) ∧ x.2.2.2.2.2.2.2.2.2.2.2.2.2.2.2.2.2.2.2.2.2.2.2.2.2.2.2.2.2.2.2.2.2.2.2.2.2.2.2.2.2.2.2.1 = (-1) ∧ x.2.2.2.2.2.2.2.2.2.2.2.2.2.2.2.2.2.2.2.2.2.2.2.2.2.2.2.2.2.2.2.2.2.2.2.2.2.2.2.1 = 0 ∧ x.2.2.2.2.2.2.2.2.2.2.2.2.2.2.2.2.2.2.2.2.2.2.2.2.2.2.2.2.2.2.2.2.2.2.2.2.2.2.2.2.1 = (-1) ∧ x.2.2.2.2.2.2.2.2.2.2.2.2.2.2.2.2.2.2.2.2.2.2.2.2.2.2.2.2.2.2.2.2.2.2.2.2.2.2.2.2.2.1 = 0 ∧ x.2.2.2.2.2.2.2.2.2.2.2.2.2.2.2.2.2.2.2.2.2.2.2.2.2.2.2.2.2.2.2.2.2.2.2.2.2.2.2.2.2.2.2.2 = rf ∧ y.2.2.2.2.2.2.2.2.2.2.2.2.2.2.2.2.2.2.2.2.2.2.2.2.2.2.2.2.2.2.2 = mRf)
set_option maxRecDepth 100000 in
set_option maxHeartbeats 4000000 in
theorem zTaskEq2 {gc gfr gcl mHh mBa mBw mBg : Int32} {nF nN stp mst prc al made amt op fx jn lets gof gfx gld rwd hand mF mN mCst mNF mNN mS mM mC mW mO m1 m2 mX mG mT tab mH mRf rf : Nat → Int32} {rlo rhi mA mB : Nat → Int64} {mWv : Int64} {u w gt rdy fo lr ba bw : Int32} {tp own : Nat → Int32} {x : Int32 × Int32 × Int32 × Int32 × Int32 × Int32 × Int32 × Int32 × Int32 × Int32 × Int32 × Int32 × Int32 × Int32 × Int32 × Int32 × Int32 × (Nat → Int32) × (Nat → Int32) × (Nat → Int32) × (Nat → Int32) × (Nat → Int32) × (Nat → Int32) × (Nat → Int32) × (Nat → Int32) × (Nat → Int32) × (Nat → Int32) × (Nat → Int32) × (Nat → Int32) × Int32 × Int32 × Int32 × (Nat → Int32) × (Nat → Int32) × (Nat → Int32) × (Nat → Int64) × (Nat → Int64) × (Nat → Int32) × (Nat → Int32) × Int32 × Int32 × Int32 × Int32 × Int32 × (Nat → Int32)} {y : Int32 × Int32 × Int32 × Int64 × Int32 × Int32 × Int32 × Int32 × Int32 × Int32 × Int32 × Int32 × Int32 × Int32 × (Nat → Int32) × (Nat → Int32) × (Nat → Int32) × (Nat → Int32) × (Nat → Int32) × (Nat → Int32) × (Nat → Int32) × (Nat → Int32) × (Nat → Int32) × (Nat → Int32) × (Nat → Int32) × (Nat → Int32) × (Nat → Int32) × (Nat → Int32) × (Nat → Int64) × (Nat → Int64) × (Nat → Int32) × (Nat → Int32)} (hl : u = w) (hu : 0 ≤ u ∧ u ≤ 1200) (ht : zTp tp mT) (ho : ∀ w : Nat, w < 13 → own w = zOwT w) (hT : (∀ k : Nat, k < 71 → tab k = zTab k)) (h1 : fn_X11_task u gt tp own nF nN stp mst prc al made amt op fx jn lets gc gfr gcl gof gld gfx rlo rhi rwd hand rdy fo lr ba bw rf = some x) (h2 : fn_X12_task w mBg mWv mHh mBa mBw mF mN mCst mT tab mNF mNN mS mM mC mW mO m1 m2 mX mG mA mB mH mRf = some y) : x.1 = y.1 ∧ x.2.2.2.2.2.1 = y.2.2.2.2.1 ∧ x.2.2.2.2.2.2.1 = y.2.2.2.2.2.2.1 ∧ zTQ rdy fo lr ba bw hand rf gof gld gfx rwd rlo rhi mHh mBa mBw mH mRf mF mN mNF mNN mS mM mC mW mCst mO m1 m2 mX mG mA mB x y := by
  subst hl
  unfold fn_X11_task at h1
  obtain ⟨r, hr, h1⟩ := zb_s h1
  have key : zRR2 mHh mBa mBw mH mRf mF mN mNF mNN mS mM mC mW mCst mO m1 m2 mX mG mA mB r y := by
    unfold fn_X5_read at hr
    have e9 : fn_X9_clear = some (0, 1, 0, 0) := rfl
    simp only [e9, zb_some] at hr
    obtain ⟨z, hz, hr⟩ := zb_s hr
    unfold fn_X10_open at hz
    have hx : (if 0 < (if 1200 < u then 1200 else u) then (if 1200 < u then 1200 else u) else 0) = u := by grind
    simp only [zn, hx] at hz
    obtain ⟨t, hadv, hT1⟩ := zAdv (n := u) (a := 0) (k0 := 0) hu.2 ⟨by decide, hu.1⟩ ht ho ⟨fun q => by grind, fun q => by rw [zK_ahead (0 - 1) (by decide)] at q; grind⟩
    rw [hadv] at hz
    simp only [zb_some] at hz
    rw [← Option.some.inj hz] at hr
    dsimp only at hr
    unfold fn_X12_task at h2
    rw [zn01.2] at h2
    exact zLoop2 hu ht ho hT _ _ _ _ _ _ _ _ _ _ _ _ _ _ _ _ _ _ _ _ _ _ _ _ _ _ _ _ _ _ _ _ _ _ _ _ _ _ _ _ _ _ _ _ ⟨by decide, by decide⟩ ⟨by decide, hu.1⟩ hT1 zTS_0 zFR_0 hr h2
  rcases key with ⟨k1, k2, k3, k4, k5⟩ | ⟨k1, k2, k3, k4, k5, k6, k7, k8, k9, k10, k11, k12⟩
  · rw [if_pos k1] at h1
    obtain ⟨z, hz, h1⟩ := zb_s h1
    unfold fn_X11_refuse at hz
    rw [if_neg (by decide), if_neg (by decide)] at hz
    obtain ⟨-, hz⟩ := zg_s hz
    rw [zn01.2] at hz
    rw [← Option.some.inj h1, ← Option.some.inj hz]
    exact ⟨k2.symm, k3.symm, k4.symm, Or.inl ⟨rfl, rfl, k5.1, rfl, k5.2.1, k5.2.2.1, k5.2.2.2.1, k5.2.2.2.2.1, rfl, rfl, rfl, rfl, rfl, rfl, k5.2.2.2.2.2⟩⟩
  · rw [if_neg (by rw [k1]; decide)] at h1
    obtain ⟨z1, hz1, h1⟩ := zb_s h1
    obtain ⟨z2, hz2, h1⟩ := zb_s h1
    have e3 : fn_X1_forget = some (0, -1) := rfl
    have e4 : fn_X3_forget = some 0 := rfl
    have e5 : fn_X0_forget = some (-1, -1) := rfl
    simp only [e3, e4, e5, zb_some] at h1
    rw [← Option.some.inj h1]
    exact ⟨k2.symm, k5.trans k3.symm, k6.trans k4.symm, Or.inr ⟨rfl, rfl, k7, k8, hz1, hz2, k9, k10, k11, rfl, rfl, rfl, rfl, rfl, rfl, k12⟩⟩
