/-! groups -/
noncomputable def zMn (x y : Int32) : Int32 := if x < y then x else y
theorem zLesser (x y : Int32) : ∃ z : Int64, fn_X12_lesser x.toInt64 y.toInt64 = some z ∧ z.toInt32 = zMn x y := by
  unfold fn_X12_lesser zMn
  by_cases c : x < y
  · refine ⟨x.toInt64, ?_, by rw [if_pos c, z64_32]⟩
    rw [if_neg (fun q => by have := (z64_le _ _).mp ((lg_cmp_ge _ _).mp q); grind)]
  · refine ⟨y.toInt64, ?_, by rw [if_neg c, z64_32]⟩
    rw [if_pos ((lg_cmp_ge _ _).mpr ((z64_le _ _).mpr (by first | lia | grind)))]
/-- groups merged, as the reference does it -/
noncomputable def zMg (cN i j : Int32) (mG G : Nat → Int32) : Prop := (∀ x : Int32, 0 ≤ x → x < cN → G (14 + x).toNatClampNeg = if mG (14 + x).toNatClampNeg = mG (14 + i).toNatClampNeg ∨ mG (14 + x).toNatClampNeg = mG (14 + j).toNatClampNeg then zMn (mG (14 + i).toNatClampNeg) (mG (14 + j).toNatClampNeg) else mG (14 + x).toNatClampNeg) ∧ (∀ y : Nat, y < 14 → G y = mG y)
noncomputable def zGI (cN p p' : Int32) (mG : Nat → Int32) (c : Int32) (G : Nat → Int32) : Prop := 0 ≤ c ∧ c ≤ cN ∧ (∀ x : Int32, 0 ≤ x → x < c → G (14 + x).toNatClampNeg = if mG (14 + x).toNatClampNeg = mG (14 + p).toNatClampNeg ∨ mG (14 + x).toNatClampNeg = mG (14 + p').toNatClampNeg then zMn (mG (14 + p).toNatClampNeg) (mG (14 + p').toNatClampNeg) else mG (14 + x).toNatClampNeg) ∧ (∀ x : Int32, c ≤ x → x < cN → G (14 + x).toNatClampNeg = mG (14 + x).toNatClampNeg) ∧ (∀ y : Nat, y < 14 → G y = mG y)
theorem zlt_of {a b : Int32} (h : ¬ b ≤ a) : a < b := by lia
theorem z14in {c cN : Int32} (h0 : 0 ≤ c) (h1 : c < cN) (h2 : cN ≤ 14) : 0 ≤ 14 + c ∧ 14 + c < 28 := ⟨by lia, by lia⟩
theorem zmeas {c cN : Int32} (h0 : 0 ≤ c) (h1 : c < cN) (h2 : cN ≤ 14) : 0 ≤ cN - (c + 1) ∧ cN - (c + 1) < cN - c := ⟨by lia, by lia⟩
set_option maxHeartbeats 2000000 in
theorem zGroupS {n a e k s v o got fk fp bg wa cN : Int32} {f g own tab nN jn : Nat → Int32} {mN mNN mG : Nat → Int32} (hn : n ≤ 1200) (ha : 0 ≤ a ∧ a ≤ n) (ht : zTp f g) (ho : ∀ w : Nat, w < 13 → own w = zOwT w) (hT : (∀ k : Nat, k < 71 → tab k = zTab k)) (T : zTok n f g a e k s v o) (hN : mN 1 = cN ∧ 0 ≤ cN ∧ cN ≤ 14) (hnn : zNR 14 cN nN mNN) :
    zw (fn_X5_readGroup got fk fp n e k s v o cN nN f own jn) (fun r => zw (fn_X12_readsGroup n a bg 0 wa 1 g tab mN mNN mG) (fun q =>
      (∃ g' e' k' s' v' o' J z b' G i j, r = (1, g', fk, fp, e', k', s', v', o', J) ∧ q = (z, b', 0, wa, G) ∧ (0 ≤ i ∧ i < cN) ∧ (0 ≤ j ∧ j < cN) ∧ ¬ i = j ∧ (∀ x : Int32, 0 ≤ x → x < cN → J x.toNatClampNeg = if jn x.toNatClampNeg = jn j.toNatClampNeg then jn i.toNatClampNeg else jn x.toNatClampNeg) ∧ zMg cN i j mG G ∧ zNext n f g z (e', k', s', v', o'))
      ∨ zStop r.1 r.2.2.1 r.2.2.2.1 q.2.2.1 q.2.2.2.1 ∧ q.2.2.2.2 = mG)) := by
  unfold fn_X5_readGroup fn_X12_readsGroup
  obtain ⟨p, hp, r1, hr1, q1, hq1, h1⟩ := zTold (got := got) (fk := fk) (fp := fp) (bg := bg) (wa := wa) hn ha ht ho hT T hN hnn
  simp only [hp, zb_some, hr1, hq1]
  rcases h1 with ⟨_, y1, rfl, p1, p2, rfl, ha1, T1⟩ | hst
  · dsimp only
    rw [if_neg (by decide)]
    obtain ⟨p', hp', r2, hr2, q2, hq2, h2⟩ := zTold (got := p) (fk := fk) (fp := fp) (bg := s) (wa := wa) hn ha1 ht ho hT T1 hN hnn
    simp only [hp', zb_some, hr2, hq2]
    rcases h2 with ⟨_, y2, rfl, p3, p4, rfl, ha2, T2⟩ | hst
    · dsimp only
      rw [if_neg (by decide)]
      by_cases d : p' = p
      · simp only [fn_X5_stopAt, if_pos d, if_pos d.symm, zGw_0, zb_some, zFl_0, zj, zGw_n (show ¬ (3 : Int32) = 0 by decide), if_true]
        rw [if_neg (by decide)]
        exact zw_some (zw_some (Or.inr ⟨⟨rfl, show ¬ (3 : Int32) = 0 by decide, rfl, rfl⟩, rfl⟩))
      · have d' : ¬ p = p' := fun q => d q.symm
        obtain ⟨J, hJ, hJ2⟩ := zJoin (jn := jn) ⟨p1, p2⟩ ⟨p3, p4⟩ hN.2.2
        simp only [if_neg d, if_neg d', hJ, zb_some, zGw_0, zj, fn_X12_n, if_neg (show ¬ (1 : Int32) = 0 by decide)]
        obtain ⟨l, hl, hl2⟩ := zLesser (mG (14 + p).toNatClampNeg) (mG (14 + p').toNatClampNeg)
        rw [show (14 * 1 : Int32) = 14 by decide +kernel, show (1 : Int32).toNatClampNeg = 1 by decide +kernel, zg28 p1 p2 hN.2.2, zg28 p3 p4 hN.2.2, hl, zb_some, hl2, hN.1]
        refine zw_some ?_
        refine zw_zl32 (fun t => zGI cN p p' mG t.1 t.2) (fun t => cN - t.1) ⟨by show (0 : Int32) ≤ 0; decide, hN.2.1, fun x h1 h2 => absurd h2 (by show ¬ x < 0; clear hJ2; grind), fun x _ _ => rfl, fun y _ => rfl⟩ (by (try dsimp only); grind) (fun t back H h => ?_)
        obtain ⟨c, G⟩ := t
        dsimp only at H h ⊢
        obtain ⟨H1, H2, H3, H4, H5⟩ := H
        refine zw_zg32 2 (by decide) (by decide) ?_
        refine zw_if (fun c1 => ?_) (fun c1 => ?_)
        · exact zw_some (Or.inl ⟨_, _, _, _, _, _, J, _, _, G, p, p', rfl, rfl, ⟨p1, p2⟩, ⟨p3, p4⟩, d', hJ2, ⟨fun x x1 x2 => H3 x x1 (by first | lia | grind), H5⟩, ha2, T2⟩)
        have hccN : c < cN := zlt_of c1
        have hz14 := z14in H1 hccN hN.2.2
        have hms := zmeas H1 hccN hN.2.2
        have hcv := H4 c (Int32.le_refl _) hccN
        have h14 : ∀ x : Int32, 0 ≤ x → x < cN → ((14 + x).toNatClampNeg = (14 + c).toNatClampNeg ↔ x = c) := by
          intro x x1 x2
          constructor
          · intro w
            have := zinj (14 + x) (14 + c) (by first | lia | grind) (by first | lia | grind) w
            grind
          · intro w; rw [w]
        have hup : (mG (14 + c).toNatClampNeg = mG (14 + p).toNatClampNeg ∨ mG (14 + c).toNatClampNeg = mG (14 + p').toNatClampNeg) → zGI cN p p' mG (c + 1) (upd G (14 + c).toNatClampNeg (zMn (mG (14 + p).toNatClampNeg) (mG (14 + p').toNatClampNeg))) := by
          intro hq
          refine ⟨by first | lia | grind, by first | lia | grind, fun x x1 x2 => ?_, fun x x1 x2 => ?_, fun y hy => ?_⟩
          · rw [zu_at]
            by_cases w : x = c
            · rw [if_pos ((h14 x x1 (by first | lia | grind)).mpr w), w, if_pos hq]
            · rw [if_neg (fun w2 => w ((h14 x x1 (by first | lia | grind)).mp w2))]
              exact H3 x x1 (by first | lia | grind)
          · rw [zu_at, if_neg (fun w2 => by have := (h14 x (by first | lia | grind) x2).mp w2; grind)]
            exact H4 x (by first | lia | grind) x2
          · rw [zu_at, if_neg ?_]
            · exact H5 y hy
            · intro w2
              have e14 := zAdd2 (x := 14) (y := c) (n := 28) (by decide +kernel) (zi_b (c := 14) (n := 14) (by decide +kernel) H1 (by first | lia | grind)).1 (by
                have := (zi_b (x := c) (c := 14) (n := 14) (by decide +kernel) H1 (by first | lia | grind)).2
                rw [show (14 : Int32).toInt = 14 by decide +kernel]
                omega) (by decide)
              rw [e14.2, show (14 : Int32).toNatClampNeg = 14 by decide +kernel] at w2
              omega
        have hkeep : ¬ (mG (14 + c).toNatClampNeg = mG (14 + p).toNatClampNeg ∨ mG (14 + c).toNatClampNeg = mG (14 + p').toNatClampNeg) → zGI cN p p' mG (c + 1) G := by
          intro hq
          refine ⟨by first | lia | grind, by first | lia | grind, fun x x1 x2 => ?_, fun x x1 x2 => ?_, H5⟩
          · by_cases w : x = c
            · rw [w, if_neg hq]; exact hcv
            · exact H3 x x1 (by first | lia | grind)
          · exact H4 x (by first | lia | grind) x2
        refine zw_zg32 28 (by decide) hz14 ?_
        refine zw_if (fun w => ?_) (fun w => ?_)
        · refine zw_zg32 28 (by decide) hz14 ?_
          exact h _ (hup (Or.inl (hcv.symm.trans w))) hms.1 hms.2
        · refine zw_zg32 28 (by decide) hz14 ?_
          refine zw_if (fun w2 => ?_) (fun w2 => h _ (hkeep (fun q => q.elim (fun z => w (hcv.trans z)) (fun z => w2 (hcv.trans z)))) hms.1 hms.2)
          refine zw_zg32 28 (by decide) hz14 ?_
          exact h _ (hup (Or.inr (hcv.symm.trans w2))) hms.1 hms.2
    · obtain ⟨s1, s2, s3, s4⟩ := hst
      obtain ⟨x1, x2, x3, x4, x5⟩ := q2
      dsimp only at s2 s3 s4 ⊢
      rw [if_pos s1]
      simp only [zGw_n s2, zb_some, if_true, zj]
      exact zw_some (zw_some (Or.inr ⟨⟨rfl, s2, s3, s4⟩, rfl⟩))
  · obtain ⟨s1, s2, s3, s4⟩ := hst
    obtain ⟨x1, x2, x3, x4, x5⟩ := q1
    dsimp only at s2 s3 s4 ⊢
    rw [if_pos s1]
    simp only [zTold_n s2, zGw_n s2, zb_some, if_true, zj]
    exact zw_some (zw_some (Or.inr ⟨⟨rfl, s2, s3, s4⟩, rfl⟩))
