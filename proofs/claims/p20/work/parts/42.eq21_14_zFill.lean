set_option maxHeartbeats 4000000 in
theorem zFill {cN p2 p3 : Int32} {op made amt wd : Nat → Int32} {lo hi : Nat → Int64} {x : (Nat → Int64) × (Nat → Int64) × (Nat → Int32)} (hN : 0 ≤ cN ∧ cN ≤ 14) (hk : ∀ i : Int32, 0 ≤ i → i < cN → zOk i op made) (h : fn_X6_fill p2 p3 cN op made amt lo hi wd = some x) : zRN cN p2 p3.toInt64 op made amt x.2.2 x.1 x.2.1 := by
  unfold fn_X6_fill at h
  refine zl_ip (P := fun x : (Nat → Int64) × (Nat → Int64) × (Nat → Int32) => zRN cN p2 p3.toInt64 op made amt x.2.2 x.1 x.2.1) (fun s => 0 ≤ s.1 ∧ s.1 ≤ cN ∧ zRN s.1 p2 p3.toInt64 op made amt s.2.2.2 s.2.1 s.2.2.1) ?_ _ _ _ ?_ h
  rotate_left
  · exact ⟨(show (0 : Int32) ≤ 0 by decide), hN.1, fun i i0 i1 => absurd i1 (by show ¬ i < 0; grind)⟩
  intro s back o ⟨H1, H2, H3⟩ hb ho
  obtain ⟨i, lo, hi, wd⟩ := s
  dsimp only at H1 H2 H3 ho
  by_cases c : cN ≤ i
  · rw [if_pos c] at ho
    have e : i = cN := by grind
    subst e
    rw [← Option.some.inj ho]
    exact H3
  · rw [if_neg c] at ho
    have hi' : 0 ≤ i ∧ i < cN := ⟨H1, by grind⟩
    have h14 : 0 ≤ i ∧ i < 14 := ⟨H1, by grind⟩
    have ok := hk i hi'.1 hi'.2
    obtain ⟨j, ej, ho⟩ := zj_g ho
    try dsimp only at ho
    have ho : j (if i = p2 then p3.toInt64 else 0) = some o := by
      by_cases q : i = p2
      · rw [if_pos q] at ho ⊢; exact ho
      · rw [if_neg q] at ho ⊢; exact ho
    have ho := zj_s ej ho
    try dsimp only at ho
    clear ej
    rw [zLwJ hN.2 hi' ok, zb_some, zHeld, zb_some] at ho
    obtain ⟨-, ho⟩ := zg_s ho
    rw [zHgJ hN.2 hi' ok, zb_some, zHeld, zb_some, zAmtOf h14, zb_some] at ho
    generalize hm : (if i = p2 then p3.toInt64 else 0) = more at ho
    generalize hA : zHd (zLw i op made amt lo hi - more) = A at ho
    have eH := (zLw_b (amt := amt) (lo := lo) (hi := hi) (lo' := vp_updL lo i.toNatClampNeg A) (hi' := hi) ok (fun j j0 j1 => ⟨by rw [zupL H1 j0, if_neg (by grind)], rfl⟩)).2
    rw [eH] at ho
    generalize hB : zHd (zHg i op made amt lo hi + more) = B at ho
    have fin : ∀ v : Int32, (v = 1 ∧ (1000000000 < zMx (zAb A) (zAb B) ∨ zWd wd (made (2 * i + 0).toNatClampNeg) ∨ zWd wd (made (2 * i + 1).toNatClampNeg)) ∨ v = 0 ∧ ¬ (1000000000 < zMx (zAb A) (zAb B) ∨ zWd wd (made (2 * i + 0).toNatClampNeg) ∨ zWd wd (made (2 * i + 1).toNatClampNeg))) → back (i + 1, vp_updL lo i.toNatClampNeg A, vp_updL hi i.toNatClampNeg B, upd wd i.toNatClampNeg v) = some o → zRN cN p2 p3.toInt64 op made amt o.2.2 o.1 o.2.1 := by
      intro v hv hbk
      refine hb _ _ ?_ hbk
      refine ⟨(show 0 ≤ i + 1 by grind), (show i + 1 ≤ cN by grind), fun j j0 j1 => ?_⟩
      have j1 : j < i + 1 := j1
      show zRN1 j p2 p3.toInt64 op made amt (upd wd i.toNatClampNeg v) (vp_updL lo i.toNatClampNeg A) (vp_updL hi i.toNatClampNeg B)
      by_cases q : j = i
      · subst q
        have nn : ∀ m : Int32, 0 ≤ m → m < j → vp_updL lo j.toNatClampNeg A m.toNatClampNeg = lo m.toNatClampNeg ∧ vp_updL hi j.toNatClampNeg B m.toNatClampNeg = hi m.toNatClampNeg := fun m m0 m1 => ⟨by rw [zupL H1 m0, if_neg (by grind)], by rw [zupL H1 m0, if_neg (by grind)]⟩
        obtain ⟨e1, e2⟩ := zLw_b (amt := amt) ok nn
        obtain ⟨k1, k2, k3, k4⟩ := ok
        have g0 : zWd (upd wd j.toNatClampNeg v) (made (2 * j + 0).toNatClampNeg) ↔ zWd wd (made (2 * j + 0).toNatClampNeg) := zWd_c (by
          by_cases c : made (2 * j + 0).toNatClampNeg = (-1)
          · exact Or.inl c
          · exact Or.inr (by rw [zup H1 (by grind), if_neg (by grind)]))
        have g1 : zWd (upd wd j.toNatClampNeg v) (made (2 * j + 1).toNatClampNeg) ↔ zWd wd (made (2 * j + 1).toNatClampNeg) := zWd_c (by
          by_cases c : made (2 * j + 1).toNatClampNeg = (-1)
          · exact Or.inl c
          · exact Or.inr (by rw [zup H1 (by grind), if_neg (by grind)]))
        unfold zRN1
        rw [e1, e2, g0, g1, zupL H1 H1, zupL H1 H1, zup H1 H1, if_pos rfl, if_pos rfl, if_pos rfl, hm]
        exact ⟨hA.symm, hB.symm, hv⟩
      · have lt : j < i := by grind
        refine zRN1_c j0 (hk j j0 (by grind)) (fun m m0 m1 => ?_) (by grind) (H3 j j0 lt)
        have ne : ¬ m = i := by grind
        rw [zupL H1 m0, zupL H1 m0, zup H1 m0, if_neg ne, if_neg ne, if_neg ne]
        exact ⟨rfl, rfl, rfl⟩
    rw [zupL H1 H1, zupL H1 H1, if_pos rfl, if_pos rfl] at ho
    by_cases d : 1000000000 < zMx (zAb A) (zAb B)
    · rw [if_pos ((lg_cmp_gt _ _).mpr d)] at ho
      exact fin _ (Or.inl ⟨rfl, Or.inl d⟩) ho
    · rw [if_neg (fun q => d ((lg_cmp_gt _ _).mp q)), zMade0 hN.2 hi', zb_some] at ho
      obtain ⟨w0, hw0, ho⟩ := zb_s ho
      rcases zIsWide ⟨ok.2.1.1, by have := ok.2.1.2; grind⟩ hw0 with ⟨z1, z2⟩ | ⟨z1, z2⟩
      · rw [if_pos z1, zMade1 hN.2 hi', zb_some] at ho
        obtain ⟨w1, hw1, ho⟩ := zb_s ho
        rcases zIsWide ⟨ok.2.2.1.1, by have := ok.2.2.1.2; grind⟩ hw1 with ⟨y1, y2⟩ | ⟨y1, y2⟩
        · rw [if_pos y1] at ho
          exact fin _ (Or.inr ⟨rfl, fun q => q.elim d (fun q => q.elim z2 y2)⟩) ho
        · rw [if_neg (by rw [y1]; decide)] at ho
          exact fin _ (Or.inl ⟨rfl, Or.inr (Or.inr y2)⟩) ho
      · rw [if_neg (by rw [z1]; decide)] at ho
        exact fin _ (Or.inl ⟨rfl, Or.inr (Or.inl z2)⟩) ho
/-! how far both ends may go -/
