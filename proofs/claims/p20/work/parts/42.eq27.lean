/-! choose, blame, certificate, status -/
theorem zref {k : Int32} {f : Nat → Int32} {x : Int32 × (Nat → Int32)} (hk : 0 ≤ k ∧ k < 5) (h : fn_X11_refuse k f = some x) : x = (-1, upd f k.toNatClampNeg (f k.toNatClampNeg + 1)) := by
  unfold fn_X11_refuse at h
  rw [if_neg (by grind), if_neg (by grind)] at h
  obtain ⟨-, h⟩ := zg_s h
  exact (Option.some.inj h).symm
theorem zrefM {k : Int32} {f : Nat → Int32} {x : Int32 × (Nat → Int32)} (h : fn_X12_refuses k f = some x) : x = (-1, upd f k.toNatClampNeg (f k.toNatClampNeg + 1)) := by
  unfold fn_X12_refuses at h
  obtain ⟨-, h⟩ := zg_s h
  exact (Option.some.inj h).symm
theorem zrefB {k : Int32} {f : Nat → Int32} {x : Int32 × (Nat → Int32)} (h : fn_X12_isRefused k f = some x) : x = (0, upd f k.toNatClampNeg (f k.toNatClampNeg + 1)) := by
  unfold fn_X12_isRefused at h
  obtain ⟨-, h⟩ := zg_s h
  exact (Option.some.inj h).symm
theorem zeq_status {mRf rf : Nat → Int32} {p1 x y : Int32} (e : rf = mRf) (h1 : fn_X11_status p1 rf = some x) (h2 : fn_X12_status p1 mRf = some y) : x = y := by
  subst e
  unfold fn_X11_status at h1
  unfold fn_X12_status at h2
  have hin : p1.toInt64 ≤ (4 : Int64) ↔ p1 ≤ 4 := by rw [show (4 : Int64) = (4 : Int32).toInt64 by decide +kernel, z64_le]
  simp only [zIsIn, zb_some, z64_ge0, hin] at h2
  by_cases c : 0 ≤ p1 ∧ p1 ≤ 4
  · rw [if_neg (by rw [zif1]; exact fun q => q c)] at h2
    rw [if_neg (by grind), if_neg (by grind)] at h1
    obtain ⟨-, h1⟩ := zg_s h1
    obtain ⟨-, h2⟩ := zg_s h2
    rw [← Option.some.inj h1, ← Option.some.inj h2]
  · rw [if_pos (by rw [zif1]; exact c)] at h2
    have e1 : x = (-1) := by
      by_cases d : p1 < 0
      · rw [if_pos d] at h1; exact (Option.some.inj h1).symm
      · rw [if_neg d, if_pos (by grind)] at h1; exact (Option.some.inj h1).symm
    rw [e1, ← Option.some.inj h2]
/-- a NUMBER whose GROUP is FREE, in both -/
theorem zFrJ {cF cc cN inp gc gfr gcl : Int32} {nF nN stp mst prc al made amt op fx jn lets gof gfx gld mF mN mCst mNF mNN mS mM mC mW mO m1 m2 mX mG : Nat → Int32} {mA mB : Nat → Int64} {p x : Int32} (T : zTN cF cc cN inp nF nN stp mst prc al made amt op fx jn lets mF mN mNF mNN mS mM mC mW mCst mO m1 m2 mX mG mA mB) (G : zGp cN gc gfr gcl gof gfx gld fx mG) (h : fn_X9_isFree p cN gc gof gfx = some x) : x = 1 ∧ (0 ≤ p ∧ p < cN) ∧ gfx (gof p.toNatClampNeg).toNatClampNeg = (-1) ∨ x = 0 ∧ ¬ ((0 ≤ p ∧ p < cN) ∧ gfx (gof p.toNatClampNeg).toNatClampNeg = (-1)) := by
  obtain ⟨hF, ⟨n1, n2, n3⟩, hC, hz, hp, hI, hf, hn, hg⟩ := T
  unfold fn_X9_isFree at h
  rw [zHasN, zb_some] at h
  by_cases d : 0 ≤ p ∧ p < cN
  · rw [if_neg (by rw [zif1]; exact fun q => q d)] at h
    obtain ⟨-, h⟩ := zg_s h
    obtain ⟨w, hw, h⟩ := zb_s h
    unfold fn_X2_isFree at hw
    obtain ⟨l1, l2, l3⟩ := hg.1 p d.1 d.2
    have e := G.1.2.1 p d.1 d.2
    have b0 := (zRk_b (G := mG) (p := mG p.toNatClampNeg) l1 (by grind)).1
    have b1 := zRk_lt (G := mG) l1 (show mG p.toNatClampNeg < cN by grind) n3 l3
    rw [← G.1.1] at b1
    rw [← e] at b0 b1
    rw [if_neg (by grind), if_neg (by grind)] at hw
    obtain ⟨-, hw⟩ := zg_s hw
    by_cases c : gfx (gof p.toNatClampNeg).toNatClampNeg = (-1)
    · rw [if_pos c] at hw
      rw [if_neg (by rw [← Option.some.inj hw]; decide)] at h
      exact Or.inl ⟨(Option.some.inj h).symm, d, c⟩
    · rw [if_neg c] at hw
      rw [if_pos (Option.some.inj hw).symm] at h
      exact Or.inr ⟨(Option.some.inj h).symm, fun q => c q.2⟩
  · rw [if_pos (by rw [zif1]; exact d)] at h
    exact Or.inr ⟨(Option.some.inj h).symm, fun q => d q.1⟩
theorem zFrM {cF cc cN inp gc gfr gcl : Int32} {nF nN stp mst prc al made amt op fx jn lets gof gfx gld mF mN mCst mNF mNN mS mM mC mW mO m1 m2 mX mG : Nat → Int32} {mA mB : Nat → Int64} {p x : Int32} (T : zTN cF cc cN inp nF nN stp mst prc al made amt op fx jn lets mF mN mNF mNN mS mM mC mW mCst mO m1 m2 mX mG mA mB) (G : zGp cN gc gfr gcl gof gfx gld fx mG) (d : 0 ≤ p ∧ p < cN) (h : fn_X12_isFree (mG p.toNatClampNeg) mN mG mX = some x) : x = 1 ∧ gfx (gof p.toNatClampNeg).toNatClampNeg = (-1) ∨ x = 0 ∧ ¬ gfx (gof p.toNatClampNeg).toNatClampNeg = (-1) := by
  have T0 := T
  obtain ⟨hF, hN, hC, hz, hp, hI, hf, hn, hg⟩ := T
  have e : gfx (gof p.toNatClampNeg).toNatClampNeg = (-1) ↔ zFree cN mG mX (mG p.toNatClampNeg) := (zFxS_f (zGp_fx hN.2.2 hg G d)).trans (zFree_c (fun i i0 i1 => (hn i i0 i1).2.2.1))
  rw [e]
  exact zIsFree hN h
set_option maxHeartbeats 4000000 in
theorem zeq_choose {cF cc cN inp gc gfr gcl mHh : Int32} {nF nN stp mst prc al made amt op fx jn lets gof gfx gld hand mF mN mCst mNF mNN mS mM mC mW mO m1 m2 mX mG mH mRf rf : Nat → Int32} {mA mB : Nat → Int64} {p1 p2 : Int32} {x : Int32 × (Nat → Int32) × (Nat → Int32)} {y : Int32 × (Nat → Int32) × (Nat → Int32)} (T : zTN cF cc cN inp nF nN stp mst prc al made amt op fx jn lets mF mN mNF mNN mS mM mC mW mCst mO m1 m2 mX mG mA mB) (G : zGp cN gc gfr gcl gof gfx gld fx mG) (H : zHN cN cF gcl mHh gof gfx hand mH) (h1 : fn_X11_choose p1 p2 cF cN gc gcl rf gof gfx hand = some x) (h2 : fn_X12_choose p1 p2 mHh mRf mN mF mG mX mH = some y) : x.1 = y.1 ∧ zHN cN cF gcl mHh gof gfx x.2.2 y.2.2 ∧ (rf = mRf → x.2.1 = y.2.1) := by
  have T0 := T
  obtain ⟨⟨f1, f2, f3⟩, ⟨n1, n2, n3⟩, hC, hz, hp, hI, hf, hn, hg⟩ := T
  unfold fn_X11_choose at h1
  unfold fn_X12_choose at h2
  rw [zHasC n2, zb_some] at h1
  rw [zIsNum (by rw [n1]; exact n2), zb_some, n1] at h2
  rw [zHasF, zb_some] at h1
  rw [zIsFmt (by rw [f1]; exact f2), zb_some, f1] at h2
  -- refused in both
  have no : (∃ z, fn_X11_refuse 2 rf = some z ∧ x = (z.1, z.2, hand)) → (∃ z, fn_X12_refuses 2 mRf = some z ∧ y = (z.1, z.2, mH)) → x.1 = y.1 ∧ zHN cN cF gcl mHh gof gfx x.2.2 y.2.2 ∧ (rf = mRf → x.2.1 = y.2.1) := by
    intro ⟨z, z1, z2⟩ ⟨w, w1, w2⟩
    rw [zref (by decide) z1] at z2
    rw [zrefM w1] at w2
    rw [z2, w2]
    exact ⟨rfl, H, fun q => by show upd rf _ _ = upd mRf _ _; rw [q]⟩
  have r1 : ∀ {k : Int32 × (Nat → Int32) → Option (Int32 × (Nat → Int32) × (Nat → Int32))}, k = (fun o => some (o.1, o.2, hand)) → zb (fn_X11_refuse 2 rf) k = some x → ∃ z, fn_X11_refuse 2 rf = some z ∧ x = (z.1, z.2, hand) := by
    intro k hk q
    obtain ⟨z, z1, z2⟩ := zb_s q
    rw [hk] at z2
    exact ⟨z, z1, (Option.some.inj z2).symm⟩
  have r2 : ∀ {k : Int32 × (Nat → Int32) → Option (Int32 × (Nat → Int32) × (Nat → Int32))}, k = (fun o => some (o.1, o.2, mH)) → zb (fn_X12_refuses 2 mRf) k = some y → ∃ z, fn_X12_refuses 2 mRf = some z ∧ y = (z.1, z.2, mH) := by
    intro k hk q
    obtain ⟨z, z1, z2⟩ := zb_s q
    rw [hk] at z2
    exact ⟨z, z1, (Option.some.inj z2).symm⟩
  by_cases c : 0 < cN ∧ gcl = 0
  · have hh : mHh = 1 := by
      rcases H.1 c.1 with ⟨a1, _⟩ | ⟨_, a2⟩
      · exact a1
      · exact absurd c.2 a2
    rw [if_neg (show ¬ (if 0 < cN ∧ gcl = 0 then (1 : Int32) else 0) = 0 by rw [zif1]; exact fun q => q c)] at h1
    rw [if_neg (show ¬ mHh = 0 by rw [hh]; decide)] at h2
    by_cases d : 0 ≤ p2 ∧ p2 < cF
    · rw [if_neg (show ¬ (if 0 ≤ p2 ∧ p2 < cF then (1 : Int32) else 0) = 0 by rw [zif1]; exact fun q => q d)] at h1 h2
      obtain ⟨w, hw, h1⟩ := zb_s h1
      by_cases e : 0 ≤ p1 ∧ p1 < cN
      · rw [if_neg (show ¬ (if 0 ≤ p1 ∧ p1 < cN then (1 : Int32) else 0) = 0 by rw [zif1]; exact fun q => q e)] at h2
        obtain ⟨-, h2⟩ := zg_s h2
        obtain ⟨v, hv, h2⟩ := zb_s h2
        rcases zFrM T0 G e hv with ⟨v1, v2⟩ | ⟨v1, v2⟩
        · rcases zFrJ T0 G hw with ⟨w1, _, _⟩ | ⟨w1, w2⟩
          · rw [if_neg (by rw [w1]; decide)] at h1
            rw [if_neg (by rw [v1]; decide)] at h2
            obtain ⟨-, h1⟩ := zg_s h1
            obtain ⟨-, h1⟩ := zg_s h1
            obtain ⟨-, h2⟩ := zg_s h2
            obtain ⟨C, D⟩ := H.2.2 c.1 c.2
            obtain ⟨⟨c1, c2⟩, c3, c4, c5⟩ := C p1 e.1 e.2
            rw [← Option.some.inj h1]
            rw [zn01.1, n1] at h2
            have key : y.1 = mH p1.toNatClampNeg ∧ y.2.1 = mRf ∧ (∀ i : Int32, 0 ≤ i → i < cN → y.2.2 i.toNatClampNeg = if mG i.toNatClampNeg = mG p1.toNatClampNeg then p2 else mH i.toNatClampNeg) := by
              refine zl_ip (P := fun y : Int32 × (Nat → Int32) × (Nat → Int32) => y.1 = mH p1.toNatClampNeg ∧ y.2.1 = mRf ∧ (∀ i : Int32, 0 ≤ i → i < cN → y.2.2 i.toNatClampNeg = if mG i.toNatClampNeg = mG p1.toNatClampNeg then p2 else mH i.toNatClampNeg)) (fun s => 0 ≤ s.1 ∧ s.1 ≤ cN ∧ (∀ i : Int32, 0 ≤ i → i < s.1 → s.2 i.toNatClampNeg = if mG i.toNatClampNeg = mG p1.toNatClampNeg then p2 else mH i.toNatClampNeg) ∧ (∀ i : Int32, 0 ≤ i → s.1 ≤ i → s.2 i.toNatClampNeg = mH i.toNatClampNeg)) ?_ _ _ _ ?_ h2
              rotate_left
              · exact ⟨(show (0 : Int32) ≤ 0 by decide), n2, fun i i0 i1 => absurd i1 (by show ¬ i < 0; grind), fun _ _ _ => rfl⟩
              intro s back o ⟨H1, H2, H3, H4⟩ hb ho
              obtain ⟨k, row⟩ := s
              dsimp only at H1 H2 H3 H4 ho
              by_cases u : cN ≤ k
              · rw [if_pos u] at ho
                rw [← Option.some.inj ho]
                exact ⟨rfl, rfl, fun i i0 i1 => H3 i i0 (by grind)⟩
              · rw [if_neg u] at ho
                obtain ⟨-, ho⟩ := zg_s ho
                obtain ⟨-, ho⟩ := zg_s ho
                have nxt : ∀ v : Int32, v = (if mG k.toNatClampNeg = mG p1.toNatClampNeg then p2 else mH k.toNatClampNeg) → back (k + 1, upd row k.toNatClampNeg v) = some o → (o.1 = mH p1.toNatClampNeg ∧ o.2.1 = mRf ∧ (∀ i : Int32, 0 ≤ i → i < cN → o.2.2 i.toNatClampNeg = if mG i.toNatClampNeg = mG p1.toNatClampNeg then p2 else mH i.toNatClampNeg)) := by
                  intro v hv hbk
                  refine hb _ _ ?_ hbk
                  refine ⟨(show 0 ≤ k + 1 by grind), (show k + 1 ≤ cN by grind), fun i i0 i1 => ?_, fun i i0 i1 => ?_⟩
                  · have i1 : i < k + 1 := i1
                    show upd row k.toNatClampNeg v i.toNatClampNeg = _
                    rw [zup H1 i0]
                    by_cases q : i = k
                    · rw [if_pos q, hv, q]
                    · rw [if_neg q]; exact H3 i i0 (by grind)
                  · have i1 : k + 1 ≤ i := i1
                    show upd row k.toNatClampNeg v i.toNatClampNeg = _
                    rw [zup H1 i0, if_neg (by grind)]; exact H4 i i0 (by grind)
                by_cases t : mG k.toNatClampNeg = mG p1.toNatClampNeg
                · rw [if_pos t] at ho
                  obtain ⟨-, ho⟩ := zg_s ho
                  exact nxt p2 (by rw [if_pos t]) ho
                · rw [if_neg t] at ho
                  obtain ⟨-, ho⟩ := zg_s ho
                  exact nxt (row k.toNatClampNeg) (by rw [if_neg t]; exact H4 k H1 (by grind)) ho
            obtain ⟨y1, y2, y3⟩ := key
            refine ⟨?_, ⟨H.1, H.2.1, fun _ _ => ⟨fun i i0 i1 => ?_, fun i i0 i1 i2 => ?_⟩⟩, fun q => ?_⟩
            · rw [y1]; exact c3
            · obtain ⟨⟨a1, a2⟩, a3, a4, a5⟩ := C i i0 i1
              show (0 ≤ gof i.toNatClampNeg ∧ gof i.toNatClampNeg < 14) ∧ upd hand (gof p1.toNatClampNeg).toNatClampNeg p2 (gof i.toNatClampNeg).toNatClampNeg = y.2.2 i.toNatClampNeg ∧ 0 ≤ y.2.2 i.toNatClampNeg ∧ y.2.2 i.toNatClampNeg < cF
              have eq := zGp_eq n3 hg G ⟨i0, i1⟩ e
              rw [y3 i i0 i1, zup c1 a1]
              by_cases t : gof i.toNatClampNeg = gof p1.toNatClampNeg
              · rw [if_pos t, if_pos (eq.mp t)]
                exact ⟨⟨a1, a2⟩, rfl, d.1, d.2⟩
              · rw [if_neg t, if_neg (fun q => t (eq.mpr q))]
                exact ⟨⟨a1, a2⟩, a3, a4, a5⟩
            · obtain ⟨⟨a1, a2⟩, a3, a4, a5⟩ := C i i0 i1
              show upd hand (gof p1.toNatClampNeg).toNatClampNeg p2 (gof i.toNatClampNeg).toNatClampNeg = gfx (gof i.toNatClampNeg).toNatClampNeg
              rw [zup c1 a1, if_neg (fun t => i2 (by rw [t]; exact v2))]
              exact D i i0 i1 i2
            · show rf = y.2.1
              rw [y2]; exact q
          · exact absurd ⟨e, v2⟩ w2
        · rcases zFrJ T0 G hw with ⟨_, _, w2⟩ | ⟨w1, w2⟩
          · exact absurd w2 v2
          · rw [if_pos w1] at h1
            rw [if_pos v1] at h2
            exact no (r1 rfl h1) (r2 rfl h2)
      · rw [if_pos (show (if 0 ≤ p1 ∧ p1 < cN then (1 : Int32) else 0) = 0 by rw [zif1]; exact e)] at h2
        rcases zFrJ T0 G hw with ⟨_, w2, _⟩ | ⟨w1, w2⟩
        · exact absurd w2 e
        · rw [if_pos w1] at h1
          exact no (r1 rfl h1) (r2 rfl h2)
    · rw [if_pos (show (if 0 ≤ p2 ∧ p2 < cF then (1 : Int32) else 0) = 0 by rw [zif1]; exact d)] at h1 h2
      have h2' : ∃ z, fn_X12_refuses 2 mRf = some z ∧ y = (z.1, z.2, mH) := by
        by_cases e : (if 0 ≤ p1 ∧ p1 < cN then (1 : Int32) else 0) = 0
        · rw [if_pos e] at h2; exact r2 rfl h2
        · rw [if_neg e] at h2; exact r2 rfl h2
      exact no (r1 rfl h1) h2'
  · rw [if_pos (show (if 0 < cN ∧ gcl = 0 then (1 : Int32) else 0) = 0 by rw [zif1]; exact c)] at h1
    have h2' : ∃ z, fn_X12_refuses 2 mRf = some z ∧ y = (z.1, z.2, mH) := by
      by_cases d : mHh = 0
      · rw [if_pos d] at h2; exact r2 rfl h2
      · rw [if_neg d] at h2
        have z : cN = 0 := by
          by_cases z : 0 < cN
          · rcases H.1 z with ⟨_, a2⟩ | ⟨a1, _⟩
            · exact absurd ⟨z, a2⟩ c
            · exact absurd a1 d
          · grind
        have e : (if 0 ≤ p1 ∧ p1 < cN then (1 : Int32) else 0) = 0 := by rw [zif1]; intro q; grind
        rw [if_pos e] at h2
        exact r2 rfl h2
    exact no (r1 rfl h1) h2'
theorem zGofR {cN gc gfr gcl : Int32} {fx jn gof gfx gld mG : Nat → Int32} {j : Int32} (hN : cN ≤ 14) (hg : zG0 cN jn mG) (G : zGp cN gc gfr gcl gof gfx gld fx mG) (hj : 0 ≤ j ∧ j < cN) : 0 ≤ gof j.toNatClampNeg ∧ gof j.toNatClampNeg < 14 := by
  obtain ⟨l1, l2, l3⟩ := hg.1 j hj.1 hj.2
  have b := zRk_b (G := mG) (p := mG j.toNatClampNeg) l1 (by grind)
  rw [G.1.2.1 j hj.1 hj.2]
  exact ⟨b.1, by grind⟩
theorem zFillF {p gc : Int32} {ch gfx x : Nat → Int32} (hg : 0 ≤ gc ∧ gc ≤ 14) (h : fn_X2_fillFree p gc ch gfx = some x) : ∀ g : Int32, 0 ≤ g → g < gc → x g.toNatClampNeg = if gfx g.toNatClampNeg = (-1) then p else gfx g.toNatClampNeg := by
  unfold fn_X2_fillFree at h
  refine zl_ip (P := fun x : Nat → Int32 => ∀ g : Int32, 0 ≤ g → g < gc → x g.toNatClampNeg = if gfx g.toNatClampNeg = (-1) then p else gfx g.toNatClampNeg) (fun s => 0 ≤ s.1 ∧ s.1 ≤ gc ∧ ∀ g : Int32, 0 ≤ g → g < s.1 → s.2 g.toNatClampNeg = if gfx g.toNatClampNeg = (-1) then p else gfx g.toNatClampNeg) ?_ _ _ _ ?_ h
  rotate_left
  · exact ⟨(show (0 : Int32) ≤ 0 by decide), hg.1, fun g g0 g1 => absurd g1 (by show ¬ g < 0; grind)⟩
  intro s back o ⟨H1, H2, H3⟩ hb ho
  obtain ⟨k, row⟩ := s
  dsimp only at H1 H2 H3 ho
  by_cases c : gc ≤ k
  · rw [if_pos c] at ho
    rw [← Option.some.inj ho]
    exact fun g g0 g1 => H3 g g0 (by grind)
  · rw [if_neg c, if_neg (show ¬ 14 ≤ k by grind)] at ho
    obtain ⟨-, ho⟩ := zg_s ho
    have nxt : ∀ v : Int32, v = (if gfx k.toNatClampNeg = (-1) then p else gfx k.toNatClampNeg) → back (k + 1, upd row k.toNatClampNeg v) = some o → ∀ g : Int32, 0 ≤ g → g < gc → o g.toNatClampNeg = if gfx g.toNatClampNeg = (-1) then p else gfx g.toNatClampNeg := by
      intro v hv hbk
      refine hb _ _ ?_ hbk
      refine ⟨(show 0 ≤ k + 1 by grind), (show k + 1 ≤ gc by grind), fun g g0 g1 => ?_⟩
      have g1 : g < k + 1 := g1
      show upd row k.toNatClampNeg v g.toNatClampNeg = _
      rw [zup H1 g0]
      by_cases q : g = k
      · rw [if_pos q, hv, q]
      · rw [if_neg q]; exact H3 g g0 (by grind)
    by_cases d : gfx k.toNatClampNeg = (-1)
    · rw [if_pos d] at ho
      exact nxt p (by rw [if_pos d]) ho
    · rw [if_neg d] at ho
      exact nxt (gfx k.toNatClampNeg) (by rw [if_neg d]) ho
