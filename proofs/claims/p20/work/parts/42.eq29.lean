/-! the CHOICE with which a TASK begins -/
noncomputable def zNC (cN : Int32) (mG fx : Nat → Int32) (m : Int32) : Prop := ∀ k o : Int32, 0 ≤ k → k < m → 0 ≤ o → o < cN → mG o.toNatClampNeg = mG k.toNatClampNeg → ¬ fx k.toNatClampNeg = (-1) → fx o.toNatClampNeg = (-1) ∨ fx o.toNatClampNeg = fx k.toNatClampNeg
theorem zNC_g {cN gc gfr gcl : Int32} {fx jn gof gfx gld mG : Nat → Int32} (hN : cN ≤ 14) (hg : zG0 cN jn mG) (G : zGp cN gc gfr gcl gof gfx gld fx mG) : gcl = 0 ↔ zNC cN mG fx cN := by
  obtain ⟨⟨g1, g2, g3, g4, g5, g6⟩, -⟩ := G
  constructor
  · intro q k o k0 k1 o0 o1 e ne
    obtain ⟨l1, l2, l3⟩ := hg.1 k k0 k1
    have n2 := g5 q (mG k.toNatClampNeg) l1 (by grind) l3
    rcases (g3 (mG k.toNatClampNeg) l1 (by grind) l3).2 with ⟨_, f⟩ | ⟨f, _⟩ | ⟨_, _, f⟩
    · exact absurd (f k k0 k1 rfl) ne
    · exact absurd f n2
    · have a := (f k k0 k1 rfl).resolve_left ne
      rcases f o o0 o1 e with b | b
      · exact Or.inl b
      · exact Or.inr (b.trans a.symm)
  · intro q
    rcases g4 with z | z
    · exact z
    · obtain ⟨j, j0, j1, j2, j3⟩ := g6 z
      rcases (g3 j j0 j1 j2).2 with ⟨f, _⟩ | ⟨_, o, p, b1, b2, b3, b4, b5, b6, b7, b8, b9⟩ | ⟨f, _⟩
      · rw [j3] at f; exact absurd f (by decide)
      · rcases q o p b1 b2 b3 b4 (b6.trans b5.symm) b7 with w | w
        · exact absurd w b8
        · exact absurd w.symm b9
      · rw [j3] at f; exact absurd f (by decide)
noncomputable def zBg (cN m : Int32) (mG fx : Nat → Int32) (o v : Int32) : Prop := (∀ k : Int32, 0 ≤ k → k < m → mG k.toNatClampNeg = mG o.toNatClampNeg → fx k.toNatClampNeg = (-1)) ∧ v = 0 ∨ (∃ k : Int32, 0 ≤ k ∧ k < m ∧ mG k.toNatClampNeg = mG o.toNatClampNeg ∧ ¬ fx k.toNatClampNeg = (-1) ∧ v = fx k.toNatClampNeg)
set_option maxHeartbeats 4000000 in
theorem zBegin {cN : Int32} {mN mX mG mH : Nat → Int32} {x : Int32 × (Nat → Int32)} (hN : mN 0 = cN ∧ 0 ≤ cN ∧ cN ≤ 14) (h : fn_X12_beginsChoice mN mH mX mG = some x) : (x.1 = 1 ∧ zNC cN mG mX cN ∨ x.1 = 0 ∧ ¬ zNC cN mG mX cN) ∧ (∀ o : Int32, 0 ≤ o → o < cN → zBg cN cN mG mX o (x.2 o.toNatClampNeg)) := by
  unfold fn_X12_beginsChoice at h
  rw [zn01.1, hN.1] at h
  refine zl_ip (P := fun x : Int32 × (Nat → Int32) => (x.1 = 1 ∧ zNC cN mG mX cN ∨ x.1 = 0 ∧ ¬ zNC cN mG mX cN) ∧ (∀ o : Int32, 0 ≤ o → o < cN → zBg cN cN mG mX o (x.2 o.toNatClampNeg))) (fun s => 0 ≤ s.1 ∧ s.1 ≤ cN ∧ ∀ o : Int32, 0 ≤ o → o < s.1 → s.2 o.toNatClampNeg = 0) ?_ _ _ _ ?_ h
  rotate_left
  · exact ⟨(show (0 : Int32) ≤ 0 by decide), hN.2.1, fun o o0 o1 => absurd o1 (by show ¬ o < 0; grind)⟩
  intro s back o ⟨H1, H2, H3⟩ hb ho
  by_cases c : cN ≤ s.1
  · rw [if_pos c] at ho
    have e : s.1 = cN := by grind
    rw [e] at H3
    refine zl_ip (P := fun x : Int32 × (Nat → Int32) => (x.1 = 1 ∧ zNC cN mG mX cN ∨ x.1 = 0 ∧ ¬ zNC cN mG mX cN) ∧ (∀ o : Int32, 0 ≤ o → o < cN → zBg cN cN mG mX o (x.2 o.toNatClampNeg))) (fun t => 0 ≤ t.1 ∧ t.1 ≤ cN ∧ (t.2.1 = 1 ∧ zNC cN mG mX t.1 ∨ t.2.1 = 0 ∧ ¬ zNC cN mG mX t.1) ∧ (∀ o : Int32, 0 ≤ o → o < cN → zBg cN t.1 mG mX o (t.2.2 o.toNatClampNeg))) ?_ _ _ _ ?_ ho
    rotate_left
    · exact ⟨(show (0 : Int32) ≤ 0 by decide), hN.2.1, Or.inl ⟨rfl, fun k o k0 k1 => absurd k1 (by show ¬ k < 0; grind)⟩, fun o o0 o1 => Or.inl ⟨fun k k0 k1 => absurd k1 (by show ¬ k < 0; grind), H3 o o0 o1⟩⟩
    intro t back2 o2 ⟨K1, K2, K3, K4⟩ hb2 ho2
    by_cases c2 : cN ≤ t.1
    · rw [if_pos c2] at ho2
      have e2 : t.1 = cN := by grind
      rw [e2] at K3 K4
      rw [← Option.some.inj ho2]
      exact ⟨K3, K4⟩
    · rw [if_neg c2] at ho2
      obtain ⟨-, ho2⟩ := zg_s ho2
      have hs : ∀ k : Int32, k < t.1 + 1 → k = t.1 ∨ k < t.1 := fun k hk => by grind
      have hl : ∀ k : Int32, k < t.1 → k < t.1 + 1 := fun k hk => by grind
      have ti : t.1 < t.1 + 1 := by grind
      by_cases d : mX t.1.toNatClampNeg = (-1)
      · rw [if_pos d] at ho2
        refine hb2 _ _ ?_ ho2
        have nc : zNC cN mG mX (t.1 + 1) ↔ zNC cN mG mX t.1 := by
          constructor
          · intro q k o k0 k1
            exact q k o k0 (hl k k1)
          · intro q k o k0 k1 o0 o1 e1 ne
            rcases hs k k1 with w | w
            · rw [w] at ne; exact absurd d ne
            · exact q k o k0 w o0 o1 e1 ne
        refine ⟨(show 0 ≤ t.1 + 1 by grind), (show t.1 + 1 ≤ cN by grind), (by rw [← nc] at K3; exact K3), fun o o0 o1 => ?_⟩
        show zBg cN (t.1 + 1) mG mX o (t.2.2 o.toNatClampNeg)
        rcases K4 o o0 o1 with ⟨a1, a2⟩ | ⟨k, b1, b2, b3⟩
        · refine Or.inl ⟨fun k k0 k1 k2 => ?_, a2⟩
          rcases hs k k1 with w | w
          · rw [w]; exact d
          · exact a1 k k0 w k2
        · exact Or.inr ⟨k, b1, hl k b2, b3⟩
      · rw [if_neg d] at ho2
        refine zl_ip (P := fun x : Int32 × (Nat → Int32) => (x.1 = 1 ∧ zNC cN mG mX cN ∨ x.1 = 0 ∧ ¬ zNC cN mG mX cN) ∧ (∀ o : Int32, 0 ≤ o → o < cN → zBg cN cN mG mX o (x.2 o.toNatClampNeg))) (fun v => 0 ≤ v.1 ∧ v.1 ≤ cN ∧ (v.2.1 = 1 ∧ (zNC cN mG mX t.1 ∧ ∀ o : Int32, 0 ≤ o → o < v.1 → mG o.toNatClampNeg = mG t.1.toNatClampNeg → mX o.toNatClampNeg = (-1) ∨ mX o.toNatClampNeg = mX t.1.toNatClampNeg) ∨ v.2.1 = 0 ∧ ¬ (zNC cN mG mX t.1 ∧ ∀ o : Int32, 0 ≤ o → o < v.1 → mG o.toNatClampNeg = mG t.1.toNatClampNeg → mX o.toNatClampNeg = (-1) ∨ mX o.toNatClampNeg = mX t.1.toNatClampNeg)) ∧ (∀ o : Int32, 0 ≤ o → o < cN → (o < v.1 → zBg cN (t.1 + 1) mG mX o (v.2.2 o.toNatClampNeg)) ∧ (v.1 ≤ o → zBg cN t.1 mG mX o (v.2.2 o.toNatClampNeg)))) ?_ _ _ _ ?_ ho2
        rotate_left
        · exact ⟨(show (0 : Int32) ≤ 0 by decide), hN.2.1, K3.imp (fun q => ⟨q.1, q.2, fun o o0 o1 => absurd o1 (by show ¬ o < 0; grind)⟩) (fun q => ⟨q.1, fun w => q.2 w.1⟩), fun o o0 o1 => ⟨fun w => absurd w (by show ¬ o < 0; grind), fun _ => K4 o o0 o1⟩⟩
        intro v back3 o3 ⟨L1, L2, L3, L4⟩ hb3 ho3
        by_cases c3 : cN ≤ v.1
        · rw [if_pos c3] at ho3
          have e3 : v.1 = cN := by grind
          refine hb2 _ _ ?_ ho3
          rw [e3] at L3 L4
          have nc : zNC cN mG mX (t.1 + 1) ↔ (zNC cN mG mX t.1 ∧ ∀ o : Int32, 0 ≤ o → o < cN → mG o.toNatClampNeg = mG t.1.toNatClampNeg → mX o.toNatClampNeg = (-1) ∨ mX o.toNatClampNeg = mX t.1.toNatClampNeg) := by
            constructor
            · intro q
              exact ⟨fun k o k0 k1 => q k o k0 (hl k k1), fun o o0 o1 o2 => q t.1 o K1 ti o0 o1 o2 d⟩
            · intro ⟨q1, q2⟩ k o k0 k1 o0 o1 e1 ne
              rcases hs k k1 with w | w
              · rw [w] at e1 ⊢; exact q2 o o0 o1 e1
              · exact q1 k o k0 w o0 o1 e1 ne
          rw [← nc] at L3
          exact ⟨(show 0 ≤ t.1 + 1 by grind), (show t.1 + 1 ≤ cN by grind), L3, fun o o0 o1 => (L4 o o0 o1).1 o1⟩
        · rw [if_neg c3] at ho3
          obtain ⟨-, ho3⟩ := zg_s ho3
          obtain ⟨-, ho3⟩ := zg_s ho3
          have hs3 : ∀ k : Int32, k < v.1 + 1 → k = v.1 ∨ k < v.1 := fun k hk => by grind
          -- a NUMBER of the same GROUP
          have same : ∀ f : Int32, mG v.1.toNatClampNeg = mG t.1.toNatClampNeg → (f = 1 ∧ (zNC cN mG mX t.1 ∧ ∀ o : Int32, 0 ≤ o → o < v.1 + 1 → mG o.toNatClampNeg = mG t.1.toNatClampNeg → mX o.toNatClampNeg = (-1) ∨ mX o.toNatClampNeg = mX t.1.toNatClampNeg) ∨ f = 0 ∧ ¬ (zNC cN mG mX t.1 ∧ ∀ o : Int32, 0 ≤ o → o < v.1 + 1 → mG o.toNatClampNeg = mG t.1.toNatClampNeg → mX o.toNatClampNeg = (-1) ∨ mX o.toNatClampNeg = mX t.1.toNatClampNeg)) → back3 (v.1 + 1, f, upd v.2.2 v.1.toNatClampNeg (mX t.1.toNatClampNeg)) = some o3 → (o3.1 = 1 ∧ zNC cN mG mX cN ∨ o3.1 = 0 ∧ ¬ zNC cN mG mX cN) ∧ (∀ o : Int32, 0 ≤ o → o < cN → zBg cN cN mG mX o (o3.2 o.toNatClampNeg)) := by
            intro f eg hf hk
            refine hb3 _ _ ?_ hk
            refine ⟨(show 0 ≤ v.1 + 1 by grind), (show v.1 + 1 ≤ cN by grind), hf, fun o o0 o1 => ⟨fun w => ?_, fun w => ?_⟩⟩
            · have w : o < v.1 + 1 := w
              show zBg cN (t.1 + 1) mG mX o (upd v.2.2 v.1.toNatClampNeg (mX t.1.toNatClampNeg) o.toNatClampNeg)
              rw [zup L1 o0]
              by_cases z : o = v.1
              · rw [if_pos z]
                exact Or.inr ⟨t.1, K1, ti, by rw [z]; exact eg.symm, d, rfl⟩
              · rw [if_neg z]; exact (L4 o o0 o1).1 (by grind)
            · have w : v.1 + 1 ≤ o := w
              show zBg cN t.1 mG mX o (upd v.2.2 v.1.toNatClampNeg (mX t.1.toNatClampNeg) o.toNatClampNeg)
              rw [zup L1 o0, if_neg (by grind)]
              exact (L4 o o0 o1).2 (by grind)
          by_cases eg : mG v.1.toNatClampNeg = mG t.1.toNatClampNeg
          · rw [if_pos eg] at ho3
            obtain ⟨-, ho3⟩ := zg_s ho3
            have cond : (zNC cN mG mX t.1 ∧ ∀ o : Int32, 0 ≤ o → o < v.1 + 1 → mG o.toNatClampNeg = mG t.1.toNatClampNeg → mX o.toNatClampNeg = (-1) ∨ mX o.toNatClampNeg = mX t.1.toNatClampNeg) ↔ (zNC cN mG mX t.1 ∧ ∀ o : Int32, 0 ≤ o → o < v.1 → mG o.toNatClampNeg = mG t.1.toNatClampNeg → mX o.toNatClampNeg = (-1) ∨ mX o.toNatClampNeg = mX t.1.toNatClampNeg) ∧ (mX v.1.toNatClampNeg = (-1) ∨ mX v.1.toNatClampNeg = mX t.1.toNatClampNeg) := by
              constructor
              · intro ⟨q1, q2⟩
                exact ⟨⟨q1, fun o o0 o1 => q2 o o0 (by grind)⟩, q2 v.1 L1 (by grind) eg⟩
              · intro ⟨⟨q1, q2⟩, q3⟩
                refine ⟨q1, fun o o0 o1 o2 => ?_⟩
                rcases hs3 o o1 with z | z
                · rw [z]; exact q3
                · exact q2 o o0 z o2
            rcases L3 with ⟨a1, a2⟩ | ⟨a1, a2⟩
            · rw [if_neg (by rw [a1]; decide)] at ho3
              by_cases z : mX v.1.toNatClampNeg = (-1)
              · rw [if_pos z] at ho3
                exact same 1 eg (Or.inl ⟨rfl, cond.mpr ⟨a2, Or.inl z⟩⟩) ho3
              · rw [if_neg z] at ho3
                by_cases z2 : mX v.1.toNatClampNeg = mX t.1.toNatClampNeg
                · rw [if_pos z2] at ho3
                  exact same 1 eg (Or.inl ⟨rfl, cond.mpr ⟨a2, Or.inr z2⟩⟩) ho3
                · rw [if_neg z2] at ho3
                  exact same 0 eg (Or.inr ⟨rfl, fun q => (cond.mp q).2.elim z z2⟩) ho3
            · rw [if_pos a1] at ho3
              exact same 0 eg (Or.inr ⟨rfl, fun q => a2 (cond.mp q).1⟩) ho3
          · rw [if_neg eg] at ho3
            refine hb3 _ _ ?_ ho3
            have cond : (zNC cN mG mX t.1 ∧ ∀ o : Int32, 0 ≤ o → o < v.1 + 1 → mG o.toNatClampNeg = mG t.1.toNatClampNeg → mX o.toNatClampNeg = (-1) ∨ mX o.toNatClampNeg = mX t.1.toNatClampNeg) ↔ (zNC cN mG mX t.1 ∧ ∀ o : Int32, 0 ≤ o → o < v.1 → mG o.toNatClampNeg = mG t.1.toNatClampNeg → mX o.toNatClampNeg = (-1) ∨ mX o.toNatClampNeg = mX t.1.toNatClampNeg) := by
              constructor
              · intro ⟨q1, q2⟩
                exact ⟨q1, fun o o0 o1 => q2 o o0 (by grind)⟩
              · intro ⟨q1, q2⟩
                refine ⟨q1, fun o o0 o1 o2 => ?_⟩
                rcases hs3 o o1 with z | z
                · rw [z] at o2; exact absurd o2 eg
                · exact q2 o o0 z o2
            rw [← cond] at L3
            refine ⟨(show 0 ≤ v.1 + 1 by grind), (show v.1 + 1 ≤ cN by grind), L3, fun o o0 o1 => ⟨fun w => ?_, fun w => (L4 o o0 o1).2 (by have w : v.1 + 1 ≤ o := w; grind)⟩⟩
            have w : o < v.1 + 1 := w
            show zBg cN (t.1 + 1) mG mX o (v.2.2 o.toNatClampNeg)
            rcases hs3 o w with z | z
            · rcases (L4 o o0 o1).2 (by grind) with ⟨b1, b2⟩ | ⟨k, b1, b2, b3⟩
              · refine Or.inl ⟨fun k k0 k1 k2 => ?_, b2⟩
                rcases hs k k1 with y | y
                · rw [y, z] at k2; exact absurd k2.symm eg
                · exact b1 k k0 y k2
              · exact Or.inr ⟨k, b1, hl k b2, b3⟩
            · exact (L4 o o0 o1).1 z
  · rw [if_neg c] at ho
    obtain ⟨-, ho⟩ := zg_s ho
    refine hb _ _ ?_ ho
    refine ⟨(show 0 ≤ s.1 + 1 by grind), (show s.1 + 1 ≤ cN by grind), fun o o0 o1 => ?_⟩
    have o1 : o < s.1 + 1 := o1
    show upd s.2 s.1.toNatClampNeg 0 o.toNatClampNeg = 0
    rw [zup H1 o0]
    by_cases q : o = s.1
    · rw [if_pos q]
    · rw [if_neg q]; exact H3 o o0 (by grind)
theorem zHN_of {cF cc cN inp gc gfr gcl : Int32} {nF nN stp mst prc al made amt op fx jn lets gof gfx gld hand mF mN mCst mNF mNN mS mM mC mW mO m1 m2 mX mG mH : Nat → Int32} {mA mB : Nat → Int64} {hand' mH' : Nat → Int32} {hh : Int32} (T : zTN cF cc cN inp nF nN stp mst prc al made amt op fx jn lets mF mN mNF mNN mS mM mC mW mCst mO m1 m2 mX mG mA mB) (G : zGp cN gc gfr gcl gof gfx gld fx mG) (h1 : fn_X2_fillFree 0 gc hand gfx = some hand') (h2 : fn_X12_beginsChoice mN mH mX mG = some (hh, mH')) : zHN cN cF gcl hh gof gfx hand' mH' := by
  obtain ⟨⟨f1, f2, f3⟩, hN, hC, hz, hp, hI, hff, hn, hg⟩ := T
  obtain ⟨b1, b2⟩ := zBegin hN h2
  dsimp only at b1 b2
  have nc := zNC_g hN.2.2 hg G
  have ncx : zNC cN mG mX cN ↔ zNC cN mG fx cN := by
    unfold zNC
    constructor
    · intro q k o k0 k1 o0 o1
      rw [(hn k k0 k1).2.2.1, (hn o o0 o1).2.2.1]; exact q k o k0 k1 o0 o1
    · intro q k o k0 k1 o0 o1
      rw [← (hn k k0 k1).2.2.1, ← (hn o o0 o1).2.2.1]; exact q k o k0 k1 o0 o1
  rw [ncx, ← nc] at b1
  have gb := zRk_b (G := mG) (p := cN) hN.2.1 hN.2.2
  rw [← G.1.1] at gb
  have fr := zFillF ⟨gb.1, by grind⟩ h1
  refine ⟨fun _ => b1, fun _ => b1.elim (fun q => Or.inr q.1) (fun q => Or.inl q.1), fun c0 cl => ?_⟩
  have cF0 := hp c0
  have ncf := nc.mp cl
  have gl : ∀ i : Int32, 0 ≤ i → i < cN → (0 ≤ gof i.toNatClampNeg ∧ gof i.toNatClampNeg < 14) ∧ gof i.toNatClampNeg < gc := by
    intro i i0 i1
    obtain ⟨l1, l2, l3⟩ := hg.1 i i0 i1
    have b1 := zRk_lt (G := mG) l1 (show mG i.toNatClampNeg < cN by grind) hN.2.2 l3
    rw [← G.1.1, ← G.1.2.1 i i0 i1] at b1
    exact ⟨zGofR hN.2.2 hg G ⟨i0, i1⟩, b1⟩
  refine ⟨fun i i0 i1 => ?_, fun i i0 i1 i2 => ?_⟩
  · obtain ⟨a1, a2⟩ := gl i i0 i1
    refine ⟨a1, ?_⟩
    rw [fr _ a1.1 a2]
    have F := zGp_fx hN.2.2 hg G ⟨i0, i1⟩
    rcases b2 i i0 i1 with ⟨k1, k2⟩ | ⟨k, k0, k1, k2, k3, k4⟩
    · have fre : zFree cN mG fx (mG i.toNatClampNeg) := fun o o0 o1 o2 => by rw [(hn o o0 o1).2.2.1]; exact k1 o o0 o1 o2
      rw [if_pos ((zFxS_f F).mpr fre), k2]
      exact ⟨rfl, by decide, cF0⟩
    · have kx := (hn k k0 k1).2.2.1
      obtain ⟨q1, q2, q3, q4, q5, q6, q7, q8, q9, q10, q11⟩ := hn k k0 k1
      rw [← kx] at k3 k4
      rw [k4]
      rcases F with ⟨_, w2⟩ | ⟨_, o, p, b1, b2, b3, b4, b5, b6, b7, b8, b9⟩ | ⟨w1, _, w3⟩
      · exact absurd (w2 k k0 k1 k2) k3
      · rcases ncf o p b1 b2 b3 b4 (b6.trans b5.symm) b7 with z | z
        · exact absurd z b8
        · exact absurd z.symm b9
      · have := (w3 k k0 k1 k2).resolve_left k3
        rw [if_neg (fun q => by rw [q] at w1; exact absurd w1 (by decide)), ← this]
        exact ⟨rfl, by grind, q10.2⟩
  · obtain ⟨a1, a2⟩ := gl i i0 i1
    rw [fr _ a1.1 a2, if_neg i2]
