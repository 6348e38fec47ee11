set_option maxHeartbeats 4000000 in
theorem zeq_range {cF cc cN inp mWn : Int32} {nF nN stp mst prc al made amt op fx jn lets rwd mF mN mCst mNF mNN mS mM mC mW mO m1 m2 mX mG mIg : Nat → Int32} {rlo rhi mA mB mLe mGe : Nat → Int64} {mWb : Int64} {p1 p2 : Int32} {x : Int64} {y : Int64 × Int32 × (Nat → Int32) × (Nat → Int64) × (Nat → Int64)} (T : zTN cF cc cN inp nF nN stp mst prc al made amt op fx jn lets mF mN mNF mNN mS mM mC mW mCst mO m1 m2 mX mG mA mB) (R : zRN cN (-1) 0 op made amt rwd rlo rhi) (h1 : fn_X11_range p1 p2 cN rwd rlo rhi = some x) (h2 : fn_X12_range p1 p2 mWn mWb mN m1 mIg m2 mO mLe mA mB mGe = some y) : x = y.1 := by
  obtain ⟨hF, ⟨n1, n2, n3⟩, hC, hz, hp, hI, hf, hn, hg⟩ := T
  unfold fn_X11_range at h1
  unfold fn_X12_range at h2
  rw [zHasN, zb_some] at h1
  rw [zIsNum (by rw [n1]; exact n2), zb_some, n1] at h2
  by_cases c : 0 ≤ p1 ∧ p1 < cN
  · rw [if_neg (by rw [zif1]; exact fun q => q c)] at h1 h2
    obtain ⟨-, h1⟩ := zg_s h1
    refine zl_ip (P := fun y : Int64 × Int32 × (Nat → Int32) × (Nat → Int64) × (Nat → Int64) => x = y.1) (fun s => 0 ≤ s.1 ∧ s.1 ≤ p1 + 1 ∧ ∀ j : Int32, 0 ≤ j → j < s.1 → s.2.2.2 j.toNatClampNeg = rwd j.toNatClampNeg ∧ (rwd j.toNatClampNeg = 0 → s.2.1 j.toNatClampNeg = rlo j.toNatClampNeg ∧ s.2.2.1 j.toNatClampNeg = rhi j.toNatClampNeg)) ?_ _ _ _ ?_ h2
    rotate_left
    · exact ⟨(show (0 : Int32) ≤ 0 by decide), (show 0 ≤ p1 + 1 by grind), fun j j1 j2 => absurd j2 (by show ¬ j < 0; grind)⟩
    intro s back o ⟨H1, H2, H3⟩ hb ho
    obtain ⟨k, lo, hi, ig⟩ := s
    dsimp only at H1 H2 H3 ho
    by_cases e : p1 < k
    · rw [if_pos e] at ho
      obtain ⟨-, ho⟩ := zg_s ho
      obtain ⟨a1, a2⟩ := H3 p1 c.1 e
      by_cases w : rwd p1.toNatClampNeg = 0
      · obtain ⟨a3, a4⟩ := a2 w
        rw [if_pos w] at h1
        rw [if_pos (a1.trans w)] at ho
        by_cases v : p2 = 0
        · rw [if_pos v] at h1 ho
          rw [← Option.some.inj ho, ← Option.some.inj h1]; exact a3.symm
        · rw [if_neg v] at h1 ho
          rw [← Option.some.inj ho, ← Option.some.inj h1]; exact a4.symm
      · rw [if_neg w] at h1
        rw [if_neg (fun q => w (a1.symm.trans q))] at ho
        rw [← Option.some.inj ho, ← Option.some.inj h1]
    · rw [if_neg e] at ho
      have hk : 0 ≤ k ∧ k < cN := ⟨H1, by grind⟩
      obtain ⟨-, ho⟩ := zg_s ho
      obtain ⟨w0, hw0, ho⟩ := zb_s ho
      have hn1 := hn k hk.1 hk.2
      obtain ⟨q1, q2, q3, q4, q5, q6, q7, q8, q9, q10, q11, q12, q13, q14, q15, q16, q17⟩ := hn k hk.1 hk.2
      obtain ⟨r1, r2, r3⟩ := R k hk.1 hk.2
      rw [if_neg (show ¬ k = (-1) by grind), Int64.sub_zero] at r1
      rw [if_neg (show ¬ k = (-1) by grind), Int64.add_zero] at r2
      have gw : ∀ m : Int32, (-1) ≤ m → m < k → (zWd ig m ↔ zWd rwd m) := fun m m0 m1 => zWd_c (by
        by_cases c : m = (-1)
        · exact Or.inl c
        · exact Or.inr (H3 m (by grind) m1).1)
      have fin : ∀ (v : Int32) (lo' hi' : Nat → Int64), v = rwd k.toNatClampNeg → (∀ j : Int32, 0 ≤ j → j < k → lo' j.toNatClampNeg = lo j.toNatClampNeg ∧ hi' j.toNatClampNeg = hi j.toNatClampNeg) → (rwd k.toNatClampNeg = 0 → lo' k.toNatClampNeg = rlo k.toNatClampNeg ∧ hi' k.toNatClampNeg = rhi k.toNatClampNeg) → ∀ g : Nat → Int32, (∀ j : Int32, 0 ≤ j → g j.toNatClampNeg = if j = k then v else ig j.toNatClampNeg) → back (k + 1, lo', hi', g) = some o → x = o.1 := by
        intro v lo' hi' hv hl hl2 g hgg hbk
        refine hb _ _ ?_ hbk
        refine ⟨(show 0 ≤ k + 1 by grind), (show k + 1 ≤ p1 + 1 by grind), fun j j1 j2 => ?_⟩
        have j2 : j < k + 1 := j2
        show g j.toNatClampNeg = rwd j.toNatClampNeg ∧ (rwd j.toNatClampNeg = 0 → lo' j.toNatClampNeg = rlo j.toNatClampNeg ∧ hi' j.toNatClampNeg = rhi j.toNatClampNeg)
        rw [hgg j j1]
        by_cases w : j = k
        · rw [if_pos w, w]; exact ⟨hv, hl2⟩
        · have lt : j < k := by grind
          rw [if_neg w, (hl j j1 lt).1, (hl j j1 lt).2]; exact H3 j j1 lt
      obtain ⟨j16, e16, ho⟩ := zj_g ho
      try dsimp only at ho
      simp only [zj] at ho
      have main : (zWd rwd (made (2 * k + 0).toNatClampNeg) ∨ zWd rwd (made (2 * k + 1).toNatClampNeg)) ∧ j16 1 = some o ∨ ¬ (zWd rwd (made (2 * k + 0).toNatClampNeg) ∨ zWd rwd (made (2 * k + 1).toNatClampNeg)) ∧ j16 0 = some o := by
        rcases zGrPt hw0 with ⟨z1, z2⟩ | ⟨z1, z2⟩
        · rw [if_pos z1] at ho
          obtain ⟨w1, hw1, ho⟩ := zb_s ho
          rcases zGrPt hw1 with ⟨y1, y2⟩ | ⟨y1, y2⟩
          · rw [if_pos y1] at ho
            rw [← q5, gw _ q12.1 q12.2] at z2
            rw [← q6, gw _ q13.1 q13.2] at y2
            exact Or.inr ⟨fun q => q.elim z2 y2, ho⟩
          · rw [if_neg (by rw [y1]; decide)] at ho
            rw [← q6, gw _ q13.1 q13.2] at y2
            exact Or.inl ⟨Or.inr y2, ho⟩
        · rw [if_neg (by rw [z1]; decide)] at ho
          rw [← q5, gw _ q12.1 q12.2] at z2
          exact Or.inl ⟨Or.inl z2, ho⟩
      rcases main with ⟨z, ho⟩ | ⟨z, ho⟩
      · have ho := zj_s e16 ho
        try dsimp only at ho
        obtain ⟨-, ho⟩ := zg_s ho
        simp only [zn] at ho
        have ex : upd ig k.toNatClampNeg (vp_nar .boolean 1) k.toNatClampNeg = 1 := by rw [zup H1 H1, if_pos rfl]; rfl
        rw [ex, if_neg (by decide)] at ho
        refine fin 1 lo hi ?_ (fun _ _ _ => ⟨rfl, rfl⟩) (fun w => ?_) _ (fun j j1 => zup H1 j1) ho
        · rcases r3 with ⟨u1, _⟩ | ⟨_, u2⟩
          · exact u1.symm
          · exact absurd (Or.inr z) u2
        · rcases r3 with ⟨u1, _⟩ | ⟨_, u2⟩
          · rw [u1] at w; exact absurd w (by decide)
          · exact absurd (Or.inr z) u2
      · have ho := zj_s e16 ho
        try dsimp only at ho
        obtain ⟨-, ho⟩ := zg_s ho
        simp only [zn] at ho
        have ex : upd ig k.toNatClampNeg (vp_nar .boolean 0) k.toNatClampNeg = 0 := by rw [zup H1 H1, if_pos rfl]; rfl
        rw [ex, if_pos rfl] at ho
        obtain ⟨u, hu, ho⟩ := zb_s ho
        obtain ⟨v, hv, ho⟩ := zb_s ho
        have hu := zLaysR hn1 hu
        have hv := zMostM hv
        rw [if_neg (show ¬ (k = (-1) ∧ op k.toNatClampNeg = 0) from fun q => by have := q.1; grind), Int64.sub_zero, Int64.add_zero] at hu
        have part : ∀ m : Int32, (-1) ≤ m → m < k → ¬ zWd rwd m → m = (-1) ∨ (lo m.toNatClampNeg = rlo m.toNatClampNeg ∧ hi m.toNatClampNeg = rhi m.toNatClampNeg) ∧ (-1000000000 ≤ rlo m.toNatClampNeg ∧ rlo m.toNatClampNeg ≤ 1000000000) ∧ (-1000000000 ≤ rhi m.toNatClampNeg ∧ rhi m.toNatClampNeg ≤ 1000000000) := by
          intro m m0 m1 m2
          by_cases w : m = (-1)
          · exact Or.inl w
          · have m0' : 0 ≤ m := by grind
            have w0 : rwd m.toNatClampNeg = 0 := by
              by_cases w0 : rwd m.toNatClampNeg = 0
              · exact w0
              · exact absurd ⟨w, w0⟩ m2
            obtain ⟨s1, s2, s3⟩ := R m m0' (by grind)
            have b1 := zHd_b (zLw m op made amt rlo rhi - (if m = (-1) then 0 else 0))
            have b2 := zHd_b (zHg m op made amt rlo rhi + (if m = (-1) then 0 else 0))
            rw [← s1] at b1
            rw [← s2] at b2
            have s4 : ¬ 1000000000 < zMx (zAb (rlo m.toNatClampNeg)) (zAb (rhi m.toNatClampNeg)) := by
              rcases s3 with ⟨t1, _⟩ | ⟨_, t2⟩
              · rw [t1] at w0; exact absurd w0 (by decide)
              · exact fun q => t2 (Or.inl q)
            rw [zMx_gt] at s4
            exact Or.inr ⟨(H3 m m0' m1).2 w0, zAb_le (by decide) (fun q => s4 (Or.inl q)) (by grind), zAb_le (by decide) (fun q => s4 (Or.inr q)) (by grind)⟩
        have pa := part _ q12.1 q12.2 (fun q => z (Or.inl q))
        have pb := part _ q13.1 q13.2 (fun q => z (Or.inr q))
        obtain ⟨e1, e2⟩ := zLw_c (i := k) (op := op) (amt := amt) (made := made) (lo' := lo) (hi' := hi) (lo := rlo) (hi := rhi) (pa.imp id (fun q => q.1)) (pb.imp id (fun q => q.1))
        have bb := zLw_r hn1 (lo := rlo) (hi := rhi) (pa.imp id (fun q => q.2)) (pb.imp id (fun q => q.2))
        rw [e1, e2] at hu
        have eu1 : u.1 k.toNatClampNeg = zLw k op made amt rlo rhi := by rw [hu]; show vp_updL lo k.toNatClampNeg _ k.toNatClampNeg = _; rw [zupL H1 H1, if_pos rfl]
        have eu2 : u.2 k.toNatClampNeg = zHg k op made amt rlo rhi := by rw [hu]; show vp_updL hi k.toNatClampNeg _ k.toNatClampNeg = _; rw [zupL H1 H1, if_pos rfl]
        have elt : ∀ j : Int32, 0 ≤ j → j < k → u.1 j.toNatClampNeg = lo j.toNatClampNeg ∧ u.2 j.toNatClampNeg = hi j.toNatClampNeg := by
          intro j j1 j2
          rw [hu]
          exact ⟨by show vp_updL lo k.toNatClampNeg _ j.toNatClampNeg = _; rw [zupL H1 j1, if_neg (by grind)], by show vp_updL hi k.toNatClampNeg _ j.toNatClampNeg = _; rw [zupL H1 j1, if_neg (by grind)]⟩
        rw [eu1, eu2] at hv
        have gt : 1000000000 < v ↔ 1000000000 < zMx (zAb (rlo k.toNatClampNeg)) (zAb (rhi k.toNatClampNeg)) := by
          rw [hv, zMx_gt, zMx_gt, r1, r2, zHd_w (by have := bb.1.1; grind), zHd_w (by have := bb.2.1; grind)]
        by_cases w : v ≤ 1000000000
        · rw [if_pos ((lg_cmp_le _ _).mpr w)] at ho
          have nw : ¬ 1000000000 < zMx (zAb (rlo k.toNatClampNeg)) (zAb (rhi k.toNatClampNeg)) := fun q => by have := gt.mpr q; grind
          have r0 : rwd k.toNatClampNeg = 0 := by
            rcases r3 with ⟨_, u2⟩ | ⟨u1, _⟩
            · rcases u2 with u2 | u2
              · exact absurd u2 nw
              · exact absurd u2 z
            · exact u1
          have nv : ¬ 1000000000 < v := by grind
          rw [hv, zMx_gt] at nv
          have l1 := zAb_le (c := 1000000000) (by decide) (fun q => nv (Or.inl q)) (by have := bb.1.1; grind)
          have l2 := zAb_le (c := 1000000000) (by decide) (fun q => nv (Or.inr q)) (by have := bb.2.1; grind)
          refine fin 0 u.1 u.2 r0.symm elt (fun _ => ⟨?_, ?_⟩) _ (fun j j1 => ?_) ho
          · rw [eu1, r1, zHd_in ⟨by have := l1.1; grind, by have := l1.2; grind⟩]
          · rw [eu2, r2, zHd_in ⟨by have := l2.1; grind, by have := l2.2; grind⟩]
          · rw [zup H1 j1, zup H1 j1]
            by_cases t : j = k
            · rw [if_pos t, if_pos t]; rfl
            · rw [if_neg t, if_neg t, if_neg t]
        · rw [if_neg (fun q => w ((lg_cmp_le _ _).mp q))] at ho
          have yw : 1000000000 < zMx (zAb (rlo k.toNatClampNeg)) (zAb (rhi k.toNatClampNeg)) := gt.mp (by grind)
          have r1' : rwd k.toNatClampNeg = 1 := by
            rcases r3 with ⟨u1, _⟩ | ⟨_, u2⟩
            · exact u1
            · exact absurd (Or.inl yw) u2
          refine fin 1 u.1 u.2 r1'.symm elt (fun q => ?_) _ (fun j j1 => ?_) ho
          · rw [r1'] at q; exact absurd q (by decide)
          · rw [zup H1 j1, zup H1 j1]
            by_cases t : j = k
            · rw [if_pos t, if_pos t]; rfl
            · rw [if_neg t, if_neg t, if_neg t]
  · rw [if_pos (by rw [zif1]; exact c)] at h1 h2
    rw [← Option.some.inj h1, ← Option.some.inj h2]

