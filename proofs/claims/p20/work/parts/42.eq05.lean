/-! names that are told already -/
noncomputable def zFst (cnt : Int32) (P : Int32 → Prop) (r : Int32) : Prop := r = (-1) ∧ (∀ i : Int32, 0 ≤ i → i < cnt → ¬ P i) ∨ 0 ≤ r ∧ r < cnt ∧ P r ∧ (∀ i : Int32, 0 ≤ i → i < r → ¬ P i)
theorem zFst_un {cnt r q : Int32} {P P' : Int32 → Prop} (h : zFst cnt P r) (h' : zFst cnt P' q) (e : ∀ i : Int32, 0 ≤ i → i < cnt → (P i ↔ P' i)) : r = q := by
  rcases h with ⟨h1, h2⟩ | ⟨h1, h2, h3, h4⟩
  · rcases h' with ⟨k1, k2⟩ | ⟨k1, k2, k3, k4⟩
    · rw [h1, k1]
    · exact absurd ((e q k1 k2).mpr k3) (h2 q k1 k2)
  · rcases h' with ⟨k1, k2⟩ | ⟨k1, k2, k3, k4⟩
    · exact absurd ((e r h1 h2).mp h3) (k2 r h1 h2)
    · by_cases c : r < q
      · exact absurd ((e r h1 h2).mp h3) (k4 r h1 c)
      · by_cases d : q < r
        · exact absurd ((e q k1 k2).mpr k3) (h4 q k1 d)
        · grind
theorem zFindF {p cnt : Int32} {f1 : Nat → Int32} (hc : 0 ≤ cnt ∧ cnt ≤ 4) : zw (fn_X9_findFormat p cnt f1) (fun r => zFst cnt (fun i => f1 i.toNatClampNeg = p) r) := by
  unfold fn_X9_findFormat
  refine zw_zl32 (fun t => 0 ≤ t ∧ t ≤ cnt ∧ (∀ i : Int32, 0 ≤ i → i < t → ¬ f1 i.toNatClampNeg = p)) (fun t => cnt - t) ⟨by decide, hc.1, fun i h1 h2 => by grind⟩ (by (try dsimp only); grind) (fun t back H h => ?_)
  obtain ⟨H1, H2, H3⟩ := H
  refine zw_if (fun c => zw_some (Or.inl ⟨rfl, fun i h1 h2 => H3 i h1 (by grind)⟩)) (fun c => ?_)
  refine zw_zg32 4 (by decide) (by grind) ?_
  refine zw_if (fun d => zw_some (Or.inr ⟨H1, by grind, d, H3⟩)) (fun d => ?_)
  refine h _ ⟨by grind, by grind, fun i h1 h2 => ?_⟩ (by (try dsimp only); grind) (by (try dsimp only); grind)
  by_cases q : i = t
  · rw [q]; exact d
  · exact H3 i h1 (by grind)
theorem zFindN {p cnt : Int32} {f1 : Nat → Int32} (hc : 0 ≤ cnt ∧ cnt ≤ 14) : zw (fn_X4_find p cnt f1) (fun r => zFst cnt (fun i => f1 i.toNatClampNeg = p) r) := by
  unfold fn_X4_find
  refine zw_zl32 (fun t => 0 ≤ t ∧ t ≤ cnt ∧ (∀ i : Int32, 0 ≤ i → i < t → ¬ f1 i.toNatClampNeg = p)) (fun t => cnt - t) ⟨by decide, hc.1, fun i h1 h2 => by grind⟩ (by (try dsimp only); grind) (fun t back H h => ?_)
  obtain ⟨H1, H2, H3⟩ := H
  refine zw_if (fun c => zw_some (Or.inl ⟨rfl, fun i h1 h2 => H3 i h1 (by grind)⟩)) (fun c => ?_)
  refine zw_zg32 14 (by decide) (by grind) ?_
  refine zw_if (fun d => zw_some (Or.inr ⟨H1, by grind, d, H3⟩)) (fun d => ?_)
  refine h _ ⟨by grind, by grind, fun i h1 h2 => ?_⟩ (by (try dsimp only); grind) (by (try dsimp only); grind)
  by_cases q : i = t
  · rw [q]; exact d
  · exact H3 i h1 (by grind)
theorem zFindFM {p : Int32} {f1 f2 : Nat → Int32} (hc : 0 ≤ f1 1 ∧ f1 1 ≤ 4) : zw (fn_X12_formatNamed p 1 f1 f2) (fun r => zFst (f1 1) (fun i => f2 (4 + i).toNatClampNeg = p) r) := by
  unfold fn_X12_formatNamed
  simp only [fn_X12_f, zb_some]
  rw [show (4 * 1 : Int32) = 4 by decide +kernel, show (1 : Int32).toNatClampNeg = 1 by decide +kernel]
  refine zw_zl32 (fun t => 0 ≤ t ∧ t ≤ f1 1 ∧ (∀ i : Int32, 0 ≤ i → i < t → ¬ f2 (4 + i).toNatClampNeg = p)) (fun t => f1 1 - t) ⟨by decide, hc.1, fun i h1 h2 => by grind⟩ (by (try dsimp only); grind) (fun t back H h => ?_)
  obtain ⟨H1, H2, H3⟩ := H
  refine zw_zg32 2 (by decide) (by decide) ?_
  refine zw_if (fun c => zw_some (Or.inl ⟨rfl, fun i h1 h2 => H3 i h1 (by grind)⟩)) (fun c => ?_)
  refine zw_zg32 8 (by decide) (by grind) ?_
  refine zw_if (fun d => zw_some (Or.inr ⟨H1, by grind, d, H3⟩)) (fun d => ?_)
  refine h _ ⟨by grind, by grind, fun i h1 h2 => ?_⟩ (by (try dsimp only); grind) (by (try dsimp only); grind)
  by_cases q : i = t
  · rw [q]; exact d
  · exact H3 i h1 (by grind)
theorem zFindNM {p : Int32} {f1 f2 : Nat → Int32} (hc : 0 ≤ f1 1 ∧ f1 1 ≤ 14) : zw (fn_X12_numberNamed p 1 f1 f2) (fun r => zFst (f1 1) (fun i => f2 (14 + i).toNatClampNeg = p) r) := by
  unfold fn_X12_numberNamed
  simp only [fn_X12_n, zb_some]
  rw [show (14 * 1 : Int32) = 14 by decide +kernel, show (1 : Int32).toNatClampNeg = 1 by decide +kernel]
  refine zw_zl32 (fun t => 0 ≤ t ∧ t ≤ f1 1 ∧ (∀ i : Int32, 0 ≤ i → i < t → ¬ f2 (14 + i).toNatClampNeg = p)) (fun t => f1 1 - t) ⟨by decide, hc.1, fun i h1 h2 => by grind⟩ (by (try dsimp only); grind) (fun t back H h => ?_)
  obtain ⟨H1, H2, H3⟩ := H
  refine zw_zg32 2 (by decide) (by decide) ?_
  refine zw_if (fun c => zw_some (Or.inl ⟨rfl, fun i h1 h2 => H3 i h1 (by grind)⟩)) (fun c => ?_)
  refine zw_zg32 28 (by decide) (by grind) ?_
  refine zw_if (fun d => zw_some (Or.inr ⟨H1, by grind, d, H3⟩)) (fun d => ?_)
  refine h _ ⟨by grind, by grind, fun i h1 h2 => ?_⟩ (by (try dsimp only); grind) (by (try dsimp only); grind)
  by_cases q : i = t
  · rw [q]; exact d
  · exact H3 i h1 (by grind)
/-! class and reference, a name each -/
noncomputable def zNR (d cnt : Int32) (c m : Nat → Int32) : Prop := ∀ i : Int32, 0 ≤ i → i < cnt → zNm (c i.toNatClampNeg) (m (d + i).toNatClampNeg)
theorem zNewName_n {w : Int32} (hw : ¬ w = 0) (n a bg wa i : Int32) (f1 f2 f3 f4 f5 f6 : Nat → Int32) : fn_X12_newName n a bg w wa i f1 f2 f3 f4 f5 f6 = some (0, a, bg, w, wa) := by
  unfold fn_X12_newName
  simp only [zName_n hw, zb_some, zGw_n hw, if_true]
theorem zTold_n {w : Int32} (hw : ¬ w = 0) (n a bg wa i : Int32) (f1 f2 f3 f4 : Nat → Int32) : fn_X12_toldNumber n a bg w wa i f1 f2 f3 f4 = some (0, a, bg, w, wa) := by
  unfold fn_X12_toldNumber
  simp only [zName_n hw, zb_some, zGw_n hw, if_true, zj]
theorem zNewName {n a e k s v o got fk fp bg wa cF cN : Int32} {f g own tab nF nN : Nat → Int32} {mF mNF mN mNN : Nat → Int32} (hn : n ≤ 1200) (ha : 0 ≤ a ∧ a ≤ n) (ht : zTp f g) (ho : ∀ w : Nat, w < 13 → own w = zOwT w) (hT : (∀ k : Nat, k < 71 → tab k = zTab k)) (T : zTok n f g a e k s v o) (hF : mF 1 = cF ∧ 0 ≤ cF ∧ cF ≤ 4) (hN : mN 1 = cN ∧ 0 ≤ cN ∧ cN ≤ 14) (hnf : zNR 4 cF nF mNF) (hnn : zNR 14 cN nN mNN) :
    zw (fn_X5_readNewName got fk fp n e k s v o cF nF cN nN f own) (fun r => zw (fn_X12_newName n a bg 0 wa 1 g tab mF mNF mN mNN) (fun q => (∃ y, r = (1, v, fk, fp, y) ∧ zNm v q.1 ∧ q.2 = (e, s, 0, wa) ∧ zNext n f g e y) ∨ zStop r.1 r.2.2.1 r.2.2.2.1 q.2.2.2.1 q.2.2.2.2)) := by
  unfold fn_X5_readNewName fn_X12_newName
  simp only [fn_X5_stopAt, zb_some, zIsName]
  refine zw_if (fun c => ?_) (fun c => ?_)
  · have c := zIf0 c
    refine zw_some ?_
    refine zw_zb0 (zNameM hn ha T hT) (fun q hq => ?_)
    rcases hq with ⟨q1, _⟩ | ⟨_, q2, q3, q4⟩
    · exact absurd q1 c
    · rw [q3, zGw_n (by decide), zb_some, if_pos rfl]
      exact zw_some (Or.inr ⟨rfl, show ¬ (1 : Int32) = 0 by decide, rfl, q4.symm⟩)
  have c := zIf1 c
  refine zw_zb0 (zFindF hF.2) (fun r1 hr1 => ?_)
  have hgo : ∀ (r : Int32 × Int32 × Int32 × Int32 × Int32 × Int32 × Int32 × Int32 × Int32), (r1 = (-1) → ∀ r2, zFst cN (fun i => nN i.toNatClampNeg = v) r2 → (r2 = (-1) → ∃ y, r = (1, v, fk, fp, y) ∧ zNext n f g e y) ∧ (¬ r2 = (-1) → r.1 = 0 ∧ r.2.2.1 = 3 ∧ r.2.2.2.1 = s)) → (¬ r1 = (-1) → r.1 = 0 ∧ r.2.2.1 = 3 ∧ r.2.2.2.1 = s) → zw (zb (fn_X12_name n a bg 0 wa g tab) (fun o_1 => (zb (fn_X12_goesWell o_1.2.2.2.1) (fun o_5 => (if o_5 = 0 then (some (o_1.1, o_1.2.1, o_1.2.2.1, o_1.2.2.2.1, o_1.2.2.2.2)) else (zb (fn_X12_formatNamed o_1.1 1 mF mNF) (fun o_10 => (if o_10 = (-1) then (zb (fn_X12_numberNamed o_1.1 1 mN mNN) (fun o_19 => (if o_19 = (-1) then (some (o_1.1, o_1.2.1, o_1.2.2.1, o_1.2.2.2.1, o_1.2.2.2.2)) else (zb (fn_X12_faults 3 o_1.2.2.1 o_1.2.2.2.1 o_1.2.2.2.2) (fun o_24 => (some (o_1.1, o_1.2.1, o_1.2.2.1, o_24.1, o_24.2))))))) else (zb (fn_X12_faults 3 o_1.2.2.1 o_1.2.2.2.1 o_1.2.2.2.2) (fun o_15 => (some (o_1.1, o_1.2.1, o_1.2.2.1, o_15.1, o_15.2)))))))))))) (fun q => (∃ y, r = (1, v, fk, fp, y) ∧ zNm v q.1 ∧ q.2 = (e, s, 0, wa) ∧ zNext n f g e y) ∨ zStop r.1 r.2.2.1 r.2.2.2.1 q.2.2.2.1 q.2.2.2.2) := by
    intro r h1 h2
    refine zw_zb0 (zNameM hn ha T hT) (fun q hq => ?_)
    obtain ⟨m, q⟩ := q
    rcases hq with ⟨_, q2, q3⟩ | ⟨q1, _⟩
    · dsimp only at q2 q3 ⊢
      subst q3
      dsimp only
      rw [zGw_0, zb_some, if_neg (by decide)]
      refine zw_zb0 (zFindFM (by rw [hF.1]; exact hF.2)) (fun m1 hm1 => ?_)
      rw [hF.1] at hm1
      have e1 : r1 = m1 := zFst_un hr1 hm1 (fun i i1 i2 => zNm_eq (hnf i i1 i2) q2)
      subst e1
      refine zw_if (fun d => ?_) (fun d => ?_)
      · refine zw_zb0 (zFindNM (by rw [hN.1]; exact hN.2)) (fun m2 hm2 => ?_)
        rw [hN.1] at hm2
        have hm3 : zFst cN (fun i => nN i.toNatClampNeg = v) m2 := by
          rcases hm2 with ⟨w1, w2⟩ | ⟨w1, w2, w3, w4⟩
          · exact Or.inl ⟨w1, fun i i1 i2 q => w2 i i1 i2 ((zNm_eq (hnn i i1 i2) q2).mp q)⟩
          · exact Or.inr ⟨w1, w2, (zNm_eq (hnn m2 w1 w2) q2).mpr w3, fun i i1 i2 q => w4 i i1 i2 ((zNm_eq (hnn i i1 (by grind)) q2).mp q)⟩
        obtain ⟨z1, z2⟩ := h1 d m2 hm3
        refine zw_if (fun d2 => ?_) (fun d2 => ?_)
        · obtain ⟨y, y1, y2⟩ := z1 d2
          exact zw_some (Or.inl ⟨y, y1, q2, rfl, y2⟩)
        · rw [zFl_0, zb_some]
          obtain ⟨y1, y2, y3⟩ := z2 d2
          exact zw_some (Or.inr ⟨y1, show ¬ (3 : Int32) = 0 by decide, y2, y3⟩)
      · rw [zFl_0, zb_some]
        obtain ⟨y1, y2, y3⟩ := h2 d
        exact zw_some (Or.inr ⟨y1, show ¬ (3 : Int32) = 0 by decide, y2, y3⟩)
    · exact absurd c q1
  refine zw_if (fun d => ?_) (fun d => ?_)
  · refine zw_zb0 (zFindN hN.2) (fun r2 hr2 => ?_)
    have hu : ∀ r3, zFst cN (fun i => nN i.toNatClampNeg = v) r3 → r3 = r2 := fun r3 h3 => zFst_un h3 hr2 (fun _ _ _ => Iff.rfl)
    refine zw_if (fun d2 => ?_) (fun d2 => ?_)
    · refine zw_zb0 (zAdvN hn ha ht ho T (Or.inl c.1)) (fun z hz => ?_)
      exact zw_some (hgo _ (fun _ r3 h3 => ⟨fun _ => ⟨z, rfl, (zTok_nx hn ha T (Or.inl c.1)).1, hz⟩, fun q => absurd ((hu r3 h3).trans d2) q⟩) (fun q => absurd d q))
    · exact zw_some (hgo _ (fun _ r3 h3 => ⟨fun q => absurd ((hu r3 h3).symm.trans q) d2, fun _ => ⟨rfl, rfl, rfl⟩⟩) (fun q => absurd d q))
  · exact zw_some (hgo _ (fun q => absurd q d) (fun _ => ⟨rfl, rfl, rfl⟩))
theorem zRKnown {n a e k s v o p got fk fp : Int32} {f g own : Nat → Int32} (hn : n ≤ 1200) (ha : 0 ≤ a ∧ a ≤ n) (ht : zTp f g) (ho : ∀ w : Nat, w < 13 → own w = zOwT w) (T : zTok n f g a e k s v o) : zw (fn_X5_readKnown p got fk fp n e k s v o f own) (fun r => (k = 1 ∧ o = (-1)) ∧ ¬ p = (-1) ∧ (∃ y, r = (1, p, fk, fp, y) ∧ zNext n f g e y) ∨ (k = 1 ∧ o = (-1)) ∧ p = (-1) ∧ r = (0, got, 3, s, e, k, s, v, o) ∨ ¬ (k = 1 ∧ o = (-1)) ∧ r = (0, got, 1, s, e, k, s, v, o)) := by
  unfold fn_X5_readKnown
  simp only [fn_X5_stopAt, zb_some, zIsName]
  refine zw_if (fun c => zw_some (Or.inr (Or.inr ⟨zIf0 c, rfl⟩))) (fun c => ?_)
  have c := zIf1 c
  refine zw_if (fun d => zw_some (Or.inr (Or.inl ⟨c, d, rfl⟩))) (fun d => ?_)
  refine zw_zb0 (zAdvN hn ha ht ho T (Or.inl c.1)) (fun z hz => ?_)
  exact zw_some (Or.inl ⟨c, d, z, rfl, (zTok_nx hn ha T (Or.inl c.1)).1, hz⟩)
/-- a NUMBER's name, told already -/
theorem zTold {n a e k s v o got fk fp bg wa cN : Int32} {f g own tab nN : Nat → Int32} {mN mNN : Nat → Int32} (hn : n ≤ 1200) (ha : 0 ≤ a ∧ a ≤ n) (ht : zTp f g) (ho : ∀ w : Nat, w < 13 → own w = zOwT w) (hT : (∀ k : Nat, k < 71 → tab k = zTab k)) (T : zTok n f g a e k s v o) (hN : mN 1 = cN ∧ 0 ≤ cN ∧ cN ≤ 14) (hnn : zNR 14 cN nN mNN) :
    zw (fn_X4_find v cN nN) (fun p => zw (fn_X5_readKnown p got fk fp n e k s v o f own) (fun r => zw (fn_X12_toldNumber n a bg 0 wa 1 g tab mN mNN) (fun q => (k = 1 ∧ ∃ y, r = (1, p, fk, fp, y) ∧ 0 ≤ p ∧ p < cN ∧ q = (p, e, s, 0, wa) ∧ zNext n f g e y) ∨ zStop r.1 r.2.2.1 r.2.2.2.1 q.2.2.2.1 q.2.2.2.2))) := by
  refine zw_mono (zFindN hN.2) (fun p hp => ?_)
  refine zw_mono (zRKnown hn ha ht ho T) (fun r hr => ?_)
  unfold fn_X12_toldNumber
  refine zw_zb0 (zNameM hn ha T hT) (fun q hq => ?_)
  obtain ⟨m, q⟩ := q
  rcases hq with ⟨q1, q2, q3⟩ | ⟨q1, q2, q3, q4⟩
  · dsimp only at q2 q3 ⊢
    subst q3
    dsimp only
    simp only [zGw_0, zb_some]
    refine zw_zj (fun x => x = p) (fun x hx => ?_) (fun j_9 hj9 => ?_)
    · subst hx
      refine zw_if (fun c => absurd c (by decide)) (fun _ => ?_)
      refine zw_if (fun c => ?_) (fun c => ?_)
      · simp only [zFl_0, zb_some, zGw_n (show ¬ (3 : Int32) = 0 by decide), if_true]
        rcases hr with ⟨_, r2, _⟩ | ⟨_, _, rfl⟩ | ⟨r1, _⟩
        · exact absurd c r2
        · exact zw_some (Or.inr ⟨rfl, show ¬ (3 : Int32) = 0 by decide, rfl, rfl⟩)
        · exact absurd q1 r1
      · refine zw_if (fun c => absurd c (by decide)) (fun _ => ?_)
        rcases hr with ⟨_, r2, y, rfl, r4⟩ | ⟨_, r2, _⟩ | ⟨r1, _⟩
        · rcases hp with ⟨p1, _⟩ | ⟨p1, p2, _⟩
          · exact absurd p1 c
          · exact zw_some (Or.inl ⟨q1.1, y, rfl, p1, p2, rfl, r4⟩)
        · exact absurd r2 c
        · exact absurd q1 r1
    · refine zw_if (fun c => absurd c (by decide)) (fun _ => ?_)
      refine zw_zb0 (zFindNM (by rw [hN.1]; exact hN.2)) (fun m2 hm2 => ?_)
      rw [hN.1] at hm2
      exact hj9 _ (zFst_un hp hm2 (fun i i1 i2 => zNm_eq (hnn i i1 i2) q2)).symm
  · obtain ⟨x2, x3, x4, x5⟩ := q
    dsimp only at q3 q4 ⊢
    subst q3
    simp only [zGw_n (show ¬ (1 : Int32) = 0 by decide), zb_some, if_true, zj]
    rcases hr with ⟨r1, _⟩ | ⟨r1, _⟩ | ⟨_, rfl⟩
    · exact absurd r1 q1
    · exact absurd r1 q1
    · exact zw_some (Or.inr ⟨rfl, show ¬ (1 : Int32) = 0 by decide, rfl, q4.symm⟩)
theorem zNot45 {n a e k s v o : Int32} {f g : Nat → Int32} (ht : zTp f g) (ha : 0 ≤ a ∧ a ≤ n) (T : zTok n f g a e k s v o) : (zB n g s = 45 ∨ zK n g s = 2) → ¬ k = 1 := by
  intro h q
  have hw := zTok_k1 T q
  rcases h with h | h
  · have := (zTok_c ht ha T 45 (by decide +kernel)).mpr h
    exact absurd (q.symm.trans this.1) (by decide)
  · exact absurd (hw.1.symm.trans h) (by decide)
theorem zWhat_n {w : Int32} (hw : ¬ w = 0) (n a bg wa i : Int32) (f1 f2 f3 f4 : Nat → Int32) : fn_X12_readsWhat n a bg w wa i f1 f2 f3 f4 = some (0, 0, a, bg, w, wa) := by
  unfold fn_X12_readsWhat
  simp only [zGw_n hw, zb_some, if_true, zTold_n hw]
/-- what a side of a NUMBER's row becomes -/
noncomputable def zPut (side m x cN : Int32) (f6 f7 : Nat → Int32) (F6 F7 : Nat → Int32) : Prop := F6 = upd f6 (2 * cN + side).toNatClampNeg m ∧ F7 = upd f7 (2 * cN + side).toNatClampNeg x
theorem zPrep {side m x cN : Int32} {f6 f7 : Nat → Int32} (hc : 0 ≤ cN ∧ cN < 14) (hs : side = 0 ∨ side = 1) : fn_X4_prepare side m x cN f6 f7 = some (upd f6 (2 * cN + side).toNatClampNeg m, upd f7 (2 * cN + side).toNatClampNeg x) := by
  unfold fn_X4_prepare
  rw [if_neg (by grind)]
  unfold zj
  dsimp only
  rw [zg_in 28 (by decide +kernel) (by grind)]
  rcases hs with rfl | rfl
  · rw [if_pos rfl]
  · rw [if_neg (by decide), if_pos rfl]
set_option maxHeartbeats 1000000 in
theorem zWhat {n a e k s v o got fk fp bg wa cN side : Int32} {f g own tab nN f6 f7 : Nat → Int32} {mN mNN : Nat → Int32} (hn : n ≤ 1200) (ha : 0 ≤ a ∧ a ≤ n) (ht : zTp f g) (ho : ∀ w : Nat, w < 13 → own w = zOwT w) (hT : (∀ k : Nat, k < 71 → tab k = zTab k)) (T : zTok n f g a e k s v o) (hN : mN 1 = cN ∧ 0 ≤ cN ∧ cN < 14) (hnn : zNR 14 cN nN mNN) (hs : side = 0 ∨ side = 1) :
    zw (fn_X5_readWhat side got fk fp n e k s v o f own cN f6 f7 nN) (fun r => zw (fn_X12_readsWhat n a bg 0 wa 1 g tab mN mNN) (fun q => (∃ m x g' e' k' s' v' o' z b', r = (1, g', fk, fp, e', k', s', v', o', upd f6 (2 * cN + side).toNatClampNeg m, upd f7 (2 * cN + side).toNatClampNeg x) ∧ q = (m, x.toInt64, z, b', 0, wa) ∧ (-1) ≤ m ∧ m < cN ∧ (-1000000) ≤ x ∧ x ≤ 1000000 ∧ zNext n f g z (e', k', s', v', o')) ∨ zStop r.1 r.2.2.1 r.2.2.2.1 q.2.2.2.2.1 q.2.2.2.2.2)) := by
  have Ts := zTok_s T
  have hb := zTok_b ha T
  have hsr : 0 ≤ s ∧ s ≤ n := ⟨hb.1, hb.2.1⟩
  -- the reference, a name
  have hmN : ∀ (P : Int32 × Int64 × Int32 × Int32 × Int32 × Int32 → Prop), ¬ (zB n g s = 45 ∨ zK n g s = 2) → zw (zb (fn_X12_toldNumber n s bg 0 wa 1 g tab mN mNN) (fun o_24 => (some (o_24.1, (0 : Int64), o_24.2.1, o_24.2.2.1, o_24.2.2.2.1, o_24.2.2.2.2)))) P → zw (fn_X12_readsWhat n a bg 0 wa 1 g tab mN mNN) P := by
    intro P hno hP
    unfold fn_X12_readsWhat
    rw [zGw_0, zb_some, if_neg (by decide)]
    refine zw_zb0 (zHere hn ha) (fun r hr => ?_)
    obtain ⟨b, s'⟩ := r
    dsimp only at hr ⊢
    obtain ⟨h1, h2⟩ := hr
    obtain rfl : s = s' := zSk_un T.1 h1
    refine zw_if (fun c => absurd (Or.inl (by rw [← h2]; exact c)) hno) (fun c => ?_)
    rw [zDi_fn hn, zb_some]
    exact zw_if (fun c => hP) (fun c => absurd (Or.inr (zIf1 c)) hno)
  have hmV : ∀ (P : Int32 × Int64 × Int32 × Int32 × Int32 × Int32 → Prop), (zB n g s = 45 ∨ zK n g s = 2) → zw (zb (fn_X12_signed ((-1000000) : Int64) (1000000 : Int64) n s bg 0 wa g) (fun o_28 => (some (((-1) : Int32), o_28.1, o_28.2.1, o_28.2.2.1, o_28.2.2.2.1, o_28.2.2.2.2)))) P → zw (fn_X12_readsWhat n a bg 0 wa 1 g tab mN mNN) P := by
    intro P hyes hP
    unfold fn_X12_readsWhat
    rw [zGw_0, zb_some, if_neg (by decide)]
    refine zw_zb0 (zHere hn ha) (fun r hr => ?_)
    obtain ⟨b, s'⟩ := r
    dsimp only at hr ⊢
    obtain ⟨h1, h2⟩ := hr
    obtain rfl : s = s' := zSk_un T.1 h1
    refine zw_if (fun c => hP) (fun c => ?_)
    rw [zDi_fn hn, zb_some]
    refine zw_if (fun c2 => ?_) (fun c => hP)
    rcases hyes with q | q
    · exact absurd (h2.trans q) c
    · exact absurd q (zIf0 c2)
  unfold fn_X5_readWhat
  simp only [zPrep (f6 := f6) (f7 := f7) hN.2 hs, zb_some]
  refine zw_if (fun c => ?_) (fun c => ?_)
  · have hno : ¬ (zB n g s = 45 ∨ zK n g s = 2) := fun q => zNot45 ht ha T q c
    obtain ⟨p, hp1, r, hr1, q, hq1, hq⟩ := zTold (got := got) (fk := fk) (fp := fp) (bg := bg) (wa := wa) hn hsr ht ho hT Ts ⟨hN.1, hN.2.1, by grind⟩ hnn
    rw [hp1, zb_some, hr1, zb_some]
    rcases hq with ⟨_, y, rfl, p1, p2, rfl, y4⟩ | hst
    · dsimp only
      rw [if_neg (by decide)]
      refine zw_some (hmN _ hno ?_)
      rw [hq1, zb_some]
      exact zw_some (Or.inl ⟨p, 0, p, y.1, y.2.1, y.2.2.1, y.2.2.2.1, y.2.2.2.2, e, s, rfl, rfl, by grind, p2, by decide, by decide, y4⟩)
    · obtain ⟨s1, s2, s3, s4⟩ := hst
      rw [if_pos s1]
      refine zw_some (hmN _ hno ?_)
      rw [hq1, zb_some]
      exact zw_some (Or.inr ⟨s1, s2, s3, s4⟩)
  · obtain ⟨r, hr1, q, hq1, hq⟩ := zRVal1 (lq := -1000000) (lo := -1000000) (hi := 1000000) (got := got) (fk := fk) (fp := fp) (bg := bg) (wa := wa) hn hsr ht ho Ts (by decide)
    rw [show (-1000000 : Int32).toInt64 = -1000000 by decide +kernel, show (1000000 : Int32).toInt64 = 1000000 by decide +kernel] at hq1
    rw [hr1, zb_some]
    by_cases hy : zB n g s = 45 ∨ zK n g s = 2
    · rcases hq with ⟨x, y, z, rfl, rfl, x1, x2, x3⟩ | hst
      · dsimp only
        rw [if_neg (by decide)]
        refine zw_some (hmV _ hy ?_)
        rw [hq1, zb_some]
        exact zw_some (Or.inl ⟨-1, x, x, y.1, y.2.1, y.2.2.1, y.2.2.2.1, y.2.2.2.2, z, s, rfl, rfl, by decide, by grind, x1, x2, x3⟩)
      · rcases hst with ⟨s1, s2, s3, s4⟩ | ⟨_, _, _, x, _, _, w1, w2⟩
        · rw [if_pos s1]
          refine zw_some (hmV _ hy ?_)
          rw [hq1, zb_some]
          exact zw_some (Or.inr ⟨s1, s2, s3, s4⟩)
        · exact absurd w2 (by grind)
    · -- neither name nor number: both stop where it stands
      have hv : ¬ (k = 3 ∧ v = 45) := fun q => hy (Or.inl ((zTok_c ht ha T 45 (by decide +kernel)).mp q))
      have hk2 : ¬ k = 2 := by
        intro q
        obtain ⟨_, _, _, TT⟩ := T
        rcases TT with T | T | T | T | T | T
        · exact absurd (q.symm.trans T.2.2.1) (by decide)
        · exact absurd (q.symm.trans T.2.2.1) (by decide)
        · exact absurd (q.symm.trans T.2.2.2.1) (by decide)
        · exact absurd (q.symm.trans T.2.2.2.2.1) (by decide)
        · exact absurd (q.symm.trans T.2.2.2.1) (by decide)
        · exact hy (Or.inr T.1)
      have hst : r.1 = 0 ∧ r.2.2.1 = 1 ∧ r.2.2.2.1 = s := by
        have e1 : fn_X5_readValue 1 (-1000000) 1000000 got fk fp n e k s v o f own = some (0, got, 1, s, e, k, s, v, o) := by
          unfold fn_X5_readValue
          simp only [fn_X5_stopAt, zb_some, zIsSign, zj, if_neg hv, if_true, if_neg hk2, if_neg (show ¬ (1 : Int32) = 0 by decide)]
        rw [e1] at hr1
        have := Option.some.inj hr1
        subst this
        exact ⟨rfl, rfl, rfl⟩
      rw [if_pos hst.1]
      refine zw_some (hmN _ hy ?_)
      unfold fn_X12_toldNumber
      obtain ⟨q, hq2, hq3⟩ := zNameM (bg := bg) (wa := wa) hn hsr Ts hT
      rw [hq2, zb_some]
      rcases hq3 with ⟨w1, _⟩ | ⟨_, w2, w3, w4⟩
      · exact absurd w1.1 c
      · obtain ⟨x1, x2, x3, x4, x5⟩ := q
        dsimp only at w3 w4 ⊢
        subst w3
        simp only [zGw_n (show ¬ (1 : Int32) = 0 by decide), zb_some, if_true, zj]
        exact zw_some (Or.inr ⟨hst.1, show ¬ (1 : Int32) = 0 by decide, hst.2.1, hst.2.2.trans w4.symm⟩)
theorem zOp_n {w : Int32} (hw : ¬ w = 0) (n a bg wa : Int32) (f1 f2 : Nat → Int32) : fn_X12_readsOp n a bg w wa f1 f2 = some (0, a, bg, w, wa) := by
  unfold fn_X12_readsOp
  rw [zGw_n hw, zb_some, if_pos rfl]
set_option maxHeartbeats 1000000 in
theorem zOp {n a e k s v o got fk fp bg wa : Int32} {f g own tab : Nat → Int32} (hn : n ≤ 1200) (ha : 0 ≤ a ∧ a ≤ n) (ht : zTp f g) (ho : ∀ w : Nat, w < 13 → own w = zOwT w) (hT : (∀ k : Nat, k < 71 → tab k = zTab k)) (T : zTok n f g a e k s v o) :
    zw (fn_X5_readOp got fk fp n e k s v o f own) (fun r => zw (fn_X12_readsOp n a bg 0 wa g tab) (fun q => (∃ x y b', r = (1, x, fk, fp, y) ∧ q = (x, e, b', 0, wa) ∧ 1 ≤ x ∧ x ≤ 5 ∧ zNext n f g e y) ∨ zStop r.1 r.2.2.1 r.2.2.2.1 q.2.2.2.1 q.2.2.2.2)) := by
  have Ts := zTok_s T
  have hb := zTok_b ha T
  have hsr : 0 ≤ s ∧ s ≤ n := ⟨hb.1, hb.2.1⟩
  have c43 := zTok_c ht ha T 43 (by decide +kernel)
  have c45 := zTok_c ht ha T 45 (by decide +kernel)
  have c42 := zTok_c ht ha T 42 (by decide +kernel)
  -- the reference: a sign
  have hsg : ∀ (r : Int32 × Int32 × Int32 × Int32 × Int32 × Int32 × Int32 × Int32 × Int32) (c x : Int32), (c = 43 ∧ x = 1 ∨ c = 45 ∧ x = 2 ∨ c = 42 ∧ x = 3) → (k = 3 ∧ v = c) → (∃ y, r = (1, x, fk, fp, y) ∧ zNext n f g e y) → zw (fn_X12_readsOp n a bg 0 wa g tab) (fun q => (∃ x y b', r = (1, x, fk, fp, y) ∧ q = (x, e, b', 0, wa) ∧ 1 ≤ x ∧ x ≤ 5 ∧ zNext n f g e y) ∨ zStop r.1 r.2.2.1 r.2.2.2.1 q.2.2.2.1 q.2.2.2.2) := by
    intro r c x hcx hkv ⟨y, hy1, hy2⟩
    have hB : zB n g s = c := by
      rcases hcx with ⟨q, _⟩ | ⟨q, _⟩ | ⟨q, _⟩
      · rw [q] at hkv ⊢; exact c43.mp hkv
      · rw [q] at hkv ⊢; exact c45.mp hkv
      · rw [q] at hkv ⊢; exact c42.mp hkv
    unfold fn_X12_readsOp
    rw [zGw_0, zb_some, if_neg (by decide)]
    refine zw_zb0 (zHere hn ha) (fun t hr => ?_)
    obtain ⟨b, s'⟩ := t
    dsimp only at hr ⊢
    obtain ⟨h1, h2⟩ := hr
    obtain rfl : s = s' := zSk_un T.1 h1
    rw [hB] at h2
    subst h2
    have e3 := zTok_3 T hkv.1
    unfold zj
    dsimp only
    rcases hcx with ⟨rfl, rfl⟩ | ⟨rfl, rfl⟩ | ⟨rfl, rfl⟩
    · rw [if_pos rfl, if_pos rfl]
      exact zw_some (Or.inl ⟨1, y, bg, hy1, by rw [e3], by decide, by decide, hy2⟩)
    · rw [if_neg (by decide), if_pos rfl, if_neg (by decide), if_pos rfl]
      exact zw_some (Or.inl ⟨2, y, bg, hy1, by rw [e3], by decide, by decide, hy2⟩)
    · rw [if_neg (by decide), if_neg (by decide), if_pos rfl, if_neg (by decide), if_neg (by decide)]
      exact zw_some (Or.inl ⟨3, y, bg, hy1, by rw [e3], by decide, by decide, hy2⟩)
  -- the reference: no sign of these
  have hwd : ∀ (r : Int32 × Int32 × Int32 × Int32 × Int32 × Int32 × Int32 × Int32 × Int32), ¬ (k = 3 ∧ v = 43) → ¬ (k = 3 ∧ v = 45) → ¬ (k = 3 ∧ v = 42) → ((k = 1 ∧ o = 7) → ∃ y, r = (1, 4, fk, fp, y) ∧ zNext n f g e y) → ((k = 1 ∧ o = 8) → ∃ y, r = (1, 5, fk, fp, y) ∧ zNext n f g e y) → (¬ (k = 1 ∧ o = 7) → ¬ (k = 1 ∧ o = 8) → r.1 = 0 ∧ r.2.2.1 = 1 ∧ r.2.2.2.1 = s) → zw (fn_X12_readsOp n a bg 0 wa g tab) (fun q => (∃ x y b', r = (1, x, fk, fp, y) ∧ q = (x, e, b', 0, wa) ∧ 1 ≤ x ∧ x ≤ 5 ∧ zNext n f g e y) ∨ zStop r.1 r.2.2.1 r.2.2.2.1 q.2.2.2.1 q.2.2.2.2) := by
    intro r n43 n45 n42 h7 h8 h0
    unfold fn_X12_readsOp
    rw [zGw_0, zb_some, if_neg (by decide)]
    refine zw_zb0 (zHere hn ha) (fun t hr => ?_)
    obtain ⟨b, s'⟩ := t
    dsimp only at hr ⊢
    obtain ⟨h1, h2⟩ := hr
    obtain rfl : s = s' := zSk_un T.1 h1
    unfold zj
    dsimp only
    rw [if_neg (fun q => n43 (c43.mpr (h2.symm.trans q))), if_neg (fun q => n45 (c45.mpr (h2.symm.trans q))), if_neg (fun q => n42 (c42.mpr (h2.symm.trans q)))]
    refine zw_zb0 (zWordM hn hsr Ts) (fun t hw => ?_)
    rcases hw with ⟨hw1, rfl⟩ | ⟨hw1, rfl⟩
    · dsimp only
      simp only [zGw_0, zb_some]
      rw [if_neg (by decide)]
      obtain ⟨hrun, hk⟩ := zTok_w Ts hw1
      refine zw_zb0 (zOwnM (by grind) (by grind) hb.2.2.1 hT (fun i hi => zRun_l hb.1 hb.2.2.1 hb.2.2.2 hn hrun.2.1 i hi)) (fun p hp => ?_)
      obtain ⟨p1, p2, p3, p4⟩ := hp
      have hpo : k = 1 ∧ p = o ∨ ¬ k = 1 ∧ p = (-1) := by
        rcases hk with ⟨k1, k2, k3, k4⟩ | ⟨k1, k2⟩
        · exact Or.inl ⟨k1, zOwS_un (p4 v k2 k3) k4⟩
        · exact Or.inr ⟨by rw [k1]; decide, p3 k2⟩
      rw [if_neg (by decide)]
      refine zw_if (fun d => ?_) (fun d => ?_)
      · rw [if_pos d]
        rcases hpo with ⟨k1, po⟩ | ⟨_, po⟩
        · obtain ⟨y, y1, y2⟩ := h7 ⟨k1, by rw [← po]; exact d⟩
          exact zw_some (Or.inl ⟨4, y, s, y1, rfl, by decide, by decide, y2⟩)
        · exact absurd (po.symm.trans d) (by decide)
      refine zw_if (fun d2 => ?_) (fun d2 => ?_)
      · rw [if_neg d]
        rcases hpo with ⟨k1, po⟩ | ⟨_, po⟩
        · obtain ⟨y, y1, y2⟩ := h8 ⟨k1, by rw [← po]; exact d2⟩
          exact zw_some (Or.inl ⟨5, y, s, y1, rfl, by decide, by decide, y2⟩)
        · exact absurd (po.symm.trans d2) (by decide)
      · rw [zFl_0, zb_some, if_neg d]
        have hh : ¬ (k = 1 ∧ o = 7) ∧ ¬ (k = 1 ∧ o = 8) := by
          rcases hpo with ⟨k1, po⟩ | ⟨k1, po⟩
          · exact ⟨fun q => d (po.trans q.2), fun q => d2 (po.trans q.2)⟩
          · exact ⟨fun q => k1 q.1, fun q => k1 q.1⟩
        obtain ⟨y1, y2, y3⟩ := h0 hh.1 hh.2
        exact zw_some (Or.inr ⟨y1, show ¬ (1 : Int32) = 0 by decide, y2, y3⟩)
    · dsimp only
      have hh : ¬ k = 1 := fun q => hw1 (zTok_k1 Ts q)
      obtain ⟨y1, y2, y3⟩ := h0 (fun q => hh q.1) (fun q => hh q.1)
      simp only [zGw_n (show ¬ (1 : Int32) = 0 by decide), zb_some, if_true]
      rw [if_neg (by decide)]
      exact zw_some (Or.inr ⟨y1, show ¬ (1 : Int32) = 0 by decide, y2, y3⟩)
  unfold fn_X5_readOp
  simp only [fn_X5_stopAt, zb_some, zIsSign, zIsOwn]
  refine zw_if (fun c1 => ?_) (fun c1 => ?_)
  · have c1 := zIf0 c1
    refine zw_if (fun c2 => ?_) (fun c2 => ?_)
    · have c2 := zIf0 c2
      refine zw_if (fun c3 => ?_) (fun c3 => ?_)
      · have c3 := zIf0 c3
        refine zw_if (fun c4 => ?_) (fun c4 => ?_)
        · have c4 := zIf0 c4
          refine zw_if (fun c5 => ?_) (fun c5 => ?_)
          · have c5 := zIf0 c5
            exact zw_some (hwd _ c1 c2 c3 (fun q => absurd q c4) (fun q => absurd q c5) (fun _ _ => ⟨rfl, rfl, rfl⟩))
          · have c5 := zIf1 c5
            refine zw_zb0 (zAdvN hn ha ht ho T (Or.inl c5.1)) (fun z hz => ?_)
            exact zw_some (hwd _ c1 c2 c3 (fun q => absurd q c4) (fun _ => ⟨z, rfl, (zTok_nx hn ha T (Or.inl c5.1)).1, hz⟩) (fun _ q => absurd c5 q))
        · have c4 := zIf1 c4
          refine zw_zb0 (zAdvN hn ha ht ho T (Or.inl c4.1)) (fun z hz => ?_)
          exact zw_some (hwd _ c1 c2 c3 (fun _ => ⟨z, rfl, (zTok_nx hn ha T (Or.inl c4.1)).1, hz⟩) (fun q => absurd (c4.2.symm.trans q.2) (by decide)) (fun q => absurd c4 q))
      · have c3 := zIf1 c3
        refine zw_zb0 (zAdvN hn ha ht ho T (Or.inr (Or.inr c3.1))) (fun z hz => ?_)
        exact zw_some (hsg _ 42 3 (Or.inr (Or.inr ⟨rfl, rfl⟩)) c3 ⟨z, rfl, (zTok_nx hn ha T (Or.inr (Or.inr c3.1))).1, hz⟩)
    · have c2 := zIf1 c2
      refine zw_zb0 (zAdvN hn ha ht ho T (Or.inr (Or.inr c2.1))) (fun z hz => ?_)
      exact zw_some (hsg _ 45 2 (Or.inr (Or.inl ⟨rfl, rfl⟩)) c2 ⟨z, rfl, (zTok_nx hn ha T (Or.inr (Or.inr c2.1))).1, hz⟩)
  · have c1 := zIf1 c1
    refine zw_zb0 (zAdvN hn ha ht ho T (Or.inr (Or.inr c1.1))) (fun z hz => ?_)
    exact zw_some (hsg _ 43 1 (Or.inl ⟨rfl, rfl⟩) c1 ⟨z, rfl, (zTok_nx hn ha T (Or.inr (Or.inr c1.1))).1, hz⟩)
