/-! the CHOICE with which a TASK begins -/
noncomputable def zNC (cN : Int32) (mG fx : Nat → Int32) (m : Int32) : Prop := ∀ k o : Int32, 0 ≤ k → k < m → 0 ≤ o → o < cN → mG o.toNatClampNeg = mG k.toNatClampNeg → ¬ fx k.toNatClampNeg = (-1) → fx o.toNatClampNeg = (-1) ∨ fx o.toNatClampNeg = fx k.toNatClampNeg
theorem zNC_g {cN gc gfr gcl : Int32} {fx jn gof gfx gld mG : Nat → Int32} (hN : cN ≤ 14) (hg : zG0 cN jn mG) (G : zGp cN gc gfr gcl gof gfx gld fx mG) : gcl = 0 ↔ zNC cN mG fx cN := by
  obtain ⟨⟨g1, g2, g3, g4, g5, g6⟩, -⟩ := G
  constructor
  · intro q k o k0 k1 o0 o1 e ne
    obtain ⟨l1, l2, l3⟩ := hg.1 k k0 k1
    have n2 := g5 q (mG k.toNatClampNeg) l1 (by grind) l3
    rcases (g3 (mG k.toNatClampNeg) l1 (by grind) l3).2 with ⟨_, f⟩ | ⟨f, _⟩ | ⟨_, _, f⟩
    · exact absurd (f k k0 k1 rfl) ne
    · exact absurd f n2
    · have a := (f k k0 k1 rfl).resolve_left ne
      rcases f o o0 o1 e with b | b
      · exact Or.inl b
      · exact Or.inr (b.trans a.symm)
  · intro q
    rcases g4 with z | z
    · exact z
    · obtain ⟨j, j0, j1, j2, j3⟩ := g6 z
      rcases (g3 j j0 j1 j2).2 with ⟨f, _⟩ | ⟨_, o, p, b1, b2, b3, b4, b5, b6, b7, b8, b9⟩ | ⟨f, _⟩
      · rw [j3] at f; exact absurd f (by decide)
      · rcases q o p b1 b2 b3 b4 (b6.trans b5.symm) b7 with w | w
        · exact absurd w b8
        · exact absurd w.symm b9
      · rw [j3] at f; exact absurd f (by decide)
noncomputable def zBg (cN m : Int32) (mG fx : Nat → Int32) (o v : Int32) : Prop := (∀ k : Int32, 0 ≤ k → k < m → mG k.toNatClampNeg = mG o.toNatClampNeg → fx k.toNatClampNeg = (-1)) ∧ v = 0 ∨ (∃ k : Int32, 0 ≤ k ∧ k < m ∧ mG k.toNatClampNeg = mG o.toNatClampNeg ∧ ¬ fx k.toNatClampNeg = (-1) ∧ v = fx k.toNatClampNeg)
set_option maxHeartbeats 4000000 in
theorem zBegin {cN : Int32} {mN mX mG mH : Nat → Int32} {x : Int32 × (Nat → Int32)} (hN : mN 0 = cN ∧ 0 ≤ cN ∧ cN ≤ 14) (h : fn_X12_beginsChoice mN mH mX mG = some x) : (x.1 = 1 ∧ zNC cN mG mX cN ∨ x.1 = 0 ∧ ¬ zNC cN mG mX cN) ∧ (∀ o : Int32, 0 ≤ o → o < cN → zBg cN cN mG mX o (x.2 o.toNatClampNeg)) := by
  unfold fn_X12_beginsChoice at h
  rw [zn01.1, hN.1] at h
  refine zl_ip (P := fun x : Int32 × (Nat → Int32) => (x.1 = 1 ∧ zNC cN mG mX cN ∨ x.1 = 0 ∧ ¬ zNC cN mG mX cN) ∧ (∀ o : Int32, 0 ≤ o → o < cN → zBg cN cN mG mX o (x.2 o.toNatClampNeg))) (fun s => 0 ≤ s.1 ∧ s.1 ≤ cN ∧ ∀ o : Int32, 0 ≤ o → o < s.1 → s.2 o.toNatClampNeg = 0) ?_ _ _ _ ?_ h
  rotate_left
  · exact ⟨(show (0 : Int32) ≤ 0 by decide), hN.2.1, fun o o0 o1 => absurd o1 (by show ¬ o < 0; grind)⟩
  intro s back o ⟨H1, H2, H3⟩ hb ho
  by_cases c : cN ≤ s.1
  · rw [if_pos c] at ho
    have e : s.1 = cN := by grind
    rw [e] at H3
    refine zl_ip (P := fun x : Int32 × (Nat → Int32) => (x.1 = 1 ∧ zNC cN mG mX cN ∨ x.1 = 0 ∧ ¬ zNC cN mG mX cN) ∧ (∀ o : Int32, 0 ≤ o → o < cN → zBg cN cN mG mX o (x.2 o.toNatClampNeg))) (fun t => 0 ≤ t.1 ∧ t.1 ≤ cN ∧ (t.2.1 = 1 ∧ zNC cN mG mX t.1 ∨ t.2.1 = 0 ∧ ¬ zNC cN mG mX t.1) ∧ (∀ o : Int32, 0 ≤ o → o < cN → zBg cN t.1 mG mX o (t.2.2 o.toNatClampNeg))) ?_ _ _ _ ?_ ho
    rotate_left
    · exact ⟨(show (0 : Int32) ≤ 0 by decide), hN.2.1, Or.inl ⟨rfl, fun k o k0 k1 => absurd k1 (by show ¬ k < 0; grind)⟩, fun o o0 o1 => Or.inl ⟨fun k k0 k1 => absurd k1 (by show ¬ k < 0; grind), H3 o o0 o1⟩⟩
    intro t back2 o2 ⟨K1, K2, K3, K4⟩ hb2 ho2
    by_cases c2 : cN ≤ t.1
    · rw [if_pos c2] at ho2
      have e2 : t.1 = cN := by grind
      rw [e2] at K3 K4
      rw [← Option.some.inj ho2]
      exact ⟨K3, K4⟩
    · rw [if_neg c2] at ho2
      obtain ⟨-, ho2⟩ := zg_s ho2
      have hs : ∀ k : Int32, k < t.1 + 1 → k = t.1 ∨ k < t.1 := fun k hk => by grind
      have hl : ∀ k : Int32, k < t.1 → k < t.1 + 1 := fun k hk => by grind
      have ti : t.1 < t.1 + 1 := by grind
      by_cases d : mX t.1.toNatClampNeg = (-1)
      · rw [if_pos d] at ho2
        refine hb2 _ _ ?_ ho2
        have nc : zNC cN mG mX (t.1 + 1) ↔ zNC cN mG mX t.1 := by
          constructor
          · intro q k o k0 k1
            exact q k o k0 (hl k k1)
          · intro q k o k0 k1 o0 o1 e1 ne
            rcases hs k k1 with w | w
            · rw [w] at ne; exact absurd d ne
            · exact q k o k0 w o0 o1 e1 ne
        refine ⟨(show 0 ≤ t.1 + 1 by grind), (show t.1 + 1 ≤ cN by grind), (by rw [← nc] at K3; exact K3), fun o o0 o1 => ?_⟩
        show zBg cN (t.1 + 1) mG mX o (t.2.2 o.toNatClampNeg)
        rcases K4 o o0 o1 with ⟨a1, a2⟩ | ⟨k, b1, b2, b3⟩
        · refine Or.inl ⟨fun k k0 k1 k2 => ?_, a2⟩
          rcases hs k k1 with w | w
          · rw [w]; exact d
          · exact a1 k k0 w k2
        · exact Or.inr ⟨k, b1, hl k b2, b3⟩
      · rw [if_neg d] at ho2
        refine zl_ip (P := fun x : Int32 × (Nat → Int32) => (x.1 = 1 ∧ zNC cN mG mX cN ∨ x.1 = 0 ∧ ¬ zNC cN mG mX cN) ∧ (∀ o : Int32, 0 ≤ o → o < cN → zBg cN cN mG mX o (x.2 o.toNatClampNeg))) (fun v => 0 ≤ v.1 ∧ v.1 ≤ cN ∧ (v.2.1 = 1 ∧ (zNC cN mG mX t.1 ∧ ∀ o : Int32, 0 ≤ o → o < v.1 → mG o.toNatClampNeg = mG t.1.toNatClampNeg → mX o.toNatClampNeg = (-1) ∨ mX o.toNatClampNeg = mX t.1.toNatClampNeg) ∨ v.2.1 = 0 ∧ ¬ (zNC cN mG mX t.1 ∧ ∀ o : Int32, 0 ≤ o → o < v.1 → mG o.toNatClampNeg = mG t.1.toNatClampNeg → mX o.toNatClampNeg = (-1) ∨ mX o.toNatClampNeg = mX t.1.toNatClampNeg)) ∧ (∀ o : Int32, 0 ≤ o → o < cN → (o < v.1 → zBg cN (t.1 + 1) mG mX o (v.2.2 o.toNatClampNeg)) ∧ (v.1 ≤ o → zBg cN t.1 mG mX o (v.2.2 o.toNatClampNeg)))) ?_ _ _ _ ?_ ho2
        rotate_left
        · exact ⟨(show (0 : Int32) ≤ 0 by decide), hN.2.1, K3.imp (fun q => ⟨q.1, q.2, fun o o0 o1 => absurd o1 (by show ¬ o < 0; grind)⟩) (fun q => ⟨q.1, fun w => q.2 w.1⟩), fun o o0 o1 => ⟨fun w => absurd w (by show ¬ o < 0; grind), fun _ => K4 o o0 o1⟩⟩
        intro v back3 o3 ⟨L1, L2, L3, L4⟩ hb3 ho3
        by_cases c3 : cN ≤ v.1
        · rw [if_pos c3] at ho3
          have e3 : v.1 = cN := by grind
          refine hb2 _ _ ?_ ho3
          rw [e3] at L3 L4
          have nc : zNC cN mG mX (t.1 + 1) ↔ (zNC cN mG mX t.1 ∧ ∀ o : Int32, 0 ≤ o → o < cN → mG o.toNatClampNeg = mG t.1.toNatClampNeg → mX o.toNatClampNeg = (-1) ∨ mX o.toNatClampNeg = mX t.1.toNatClampNeg) := by
            constructor
            · intro q
              exact ⟨fun k o k0 k1 => q k o k0 (hl k k1), fun o o0 o1 o2 => q t.1 o K1 ti o0 o1 o2 d⟩
            · intro ⟨q1, q2⟩ k o k0 k1 o0 o1 e1 ne
              rcases hs k k1 with w | w
              · rw [w] at e1 ⊢; exact q2 o o0 o1 e1
              · exact q1 k o k0 w o0 o1 e1 ne
          rw [← nc] at L3
          exact ⟨(show 0 ≤ t.1 + 1 by grind), (show t.1 + 1 ≤ cN by grind), L3, fun o o0 o1 => (L4 o o0 o1).1 o1⟩
        · rw [if_neg c3] at ho3
          obtain ⟨-, ho3⟩ := zg_s ho3
          obtain ⟨-, ho3⟩ := zg_s ho3
          have hs3 : ∀ k : Int32, k < v.1 + 1 → k = v.1 ∨ k < v.1 := fun k hk => by grind
          -- a NUMBER of the same GROUP
          have same : ∀ f : Int32, mG v.1.toNatClampNeg = mG t.1.toNatClampNeg → (f = 1 ∧ (zNC cN mG mX t.1 ∧ ∀ o : Int32, 0 ≤ o → o < v.1 + 1 → mG o.toNatClampNeg = mG t.1.toNatClampNeg → mX o.toNatClampNeg = (-1) ∨ mX o.toNatClampNeg = mX t.1.toNatClampNeg) ∨ f = 0 ∧ ¬ (zNC cN mG mX t.1 ∧ ∀ o : Int32, 0 ≤ o → o < v.1 + 1 → mG o.toNatClampNeg = mG t.1.toNatClampNeg → mX o.toNatClampNeg = (-1) ∨ mX o.toNatClampNeg = mX t.1.toNatClampNeg)) → back3 (v.1 + 1, f, upd v.2.2 v.1.toNatClampNeg (mX t.1.toNatClampNeg)) = some o3 → (o3.1 = 1 ∧ zNC cN mG mX cN ∨ o3.1 = 0 ∧ ¬ zNC cN mG mX cN) ∧ (∀ o : Int32, 0 ≤ o → o < cN → zBg cN cN mG mX o (o3.2 o.toNatClampNeg)) := by
            intro f eg hf hk
            refine hb3 _ _ ?_ hk
            refine ⟨(show 0 ≤ v.1 + 1 by grind), (show v.1 + 1 ≤ cN by grind), hf, fun o o0 o1 => ⟨fun w => ?_, fun w => ?_⟩⟩
            · have w : o < v.1 + 1 := w
              show zBg cN (t.1 + 1) mG mX o (upd v.2.2 v.1.toNatClampNeg (mX t.1.toNatClampNeg) o.toNatClampNeg)
              rw [zup L1 o0]
              by_cases z : o = v.1
              · rw [if_pos z]
                exact Or.inr ⟨t.1, K1, ti, by rw [z]; exact eg.symm, d, rfl⟩
              · rw [if_neg z]; exact (L4 o o0 o1).1 (by grind)
            · have w : v.1 + 1 ≤ o := w
              show zBg cN t.1 mG mX o (upd v.2.2 v.1.toNatClampNeg (mX t.1.toNatClampNeg) o.toNatClampNeg)
              rw [zup L1 o0, if_neg (by grind)]
              exact (L4 o o0 o1).2 (by grind)
          by_cases eg : mG v.1.toNatClampNeg = mG t.1.toNatClampNeg
          · rw [if_pos eg] at ho3
            obtain ⟨-, ho3⟩ := zg_s ho3
            have cond : (zNC cN mG mX t.1 ∧ ∀ o : Int32, 0 ≤ o → o < v.1 + 1 → mG o.toNatClampNeg = mG t.1.toNatClampNeg → mX o.toNatClampNeg = (-1) ∨ mX o.toNatClampNeg = mX t.1.toNatClampNeg) ↔ (zNC cN mG mX t.1 ∧ ∀ o : Int32, 0 ≤ o → o < v.1 → mG o.toNatClampNeg = mG t.1.toNatClampNeg → mX o.toNatClampNeg = (-1) ∨ mX o.toNatClampNeg = mX t.1.toNatClampNeg) ∧ (mX v.1.toNatClampNeg = (-1) ∨ mX v.1.toNatClampNeg = mX t.1.toNatClampNeg) := by
              constructor
              · intro ⟨q1, q2⟩
                exact ⟨⟨q1, fun o o0 o1 => q2 o o0 (by grind)⟩, q2 v.1 L1 (by grind) eg⟩
              · intro ⟨⟨q1, q2⟩, q3⟩
                refine ⟨q1, fun o o0 o1 o2 => ?_⟩
                rcases hs3 o o1 with z | z
                · rw [z]; exact q3
                · exact q2 o o0 z o2
            rcases L3 with ⟨a1, a2⟩ | ⟨a1, a2⟩
            · rw [if_neg (by rw [a1]; decide)] at ho3
              by_cases z : mX v.1.toNatClampNeg = (-1)
              · rw [if_pos z] at ho3
                exact same 1 eg (Or.inl ⟨rfl, cond.mpr ⟨a2, Or.inl z⟩⟩) ho3
              · rw [if_neg z] at ho3
                by_cases z2 : mX v.1.toNatClampNeg = mX t.1.toNatClampNeg
                · rw [if_pos z2] at ho3
                  exact same 1 eg (Or.inl ⟨rfl, cond.mpr ⟨a2, Or.inr z2⟩⟩) ho3
                · rw [if_neg z2] at ho3
                  exact same 0 eg (Or.inr ⟨rfl, fun q => (cond.mp q).2.elim z z2⟩) ho3
            · rw [if_pos a1] at ho3
              exact same 0 eg (Or.inr ⟨rfl, fun q => a2 (cond.mp q).1⟩) ho3
          · rw [if_neg eg] at ho3
            refine hb3 _ _ ?_ ho3
            have cond : (zNC cN mG mX t.1 ∧ ∀ o : Int32, 0 ≤ o → o < v.1 + 1 → mG o.toNatClampNeg = mG t.1.toNatClampNeg → mX o.toNatClampNeg = (-1) ∨ mX o.toNatClampNeg = mX t.1.toNatClampNeg) ↔ (zNC cN mG mX t.1 ∧ ∀ o : Int32, 0 ≤ o → o < v.1 → mG o.toNatClampNeg = mG t.1.toNatClampNeg → mX o.toNatClampNeg = (-1) ∨ mX o.toNatClampNeg = mX t.1.toNatClampNeg) := by
              constructor
              · intro ⟨q1, q2⟩
                exact ⟨q1, fun o o0 o1 => q2 o o0 (by grind)⟩
              · intro ⟨q1, q2⟩
                refine ⟨q1, fun o o0 o1 o2 => ?_⟩
                rcases hs3 o o1 with z | z
                · rw [z] at o2; exact absurd o2 eg
                · exact q2 o o0 z o2
            rw [← cond] at L3
            refine ⟨(show 0 ≤ v.1 + 1 by grind), (show v.1 + 1 ≤ cN by grind), L3, fun o o0 o1 => ⟨fun w => ?_, fun w => (L4 o o0 o1).2 (by have w : v.1 + 1 ≤ o := w; grind)⟩⟩
            have w : o < v.1 + 1 := w
            show zBg cN (t.1 + 1) mG mX o (v.2.2 o.toNatClampNeg)
            rcases hs3 o w with z | z
            · rcases (L4 o o0 o1).2 (by grind) with ⟨b1, b2⟩ | ⟨k, b1, b2, b3⟩
              · refine Or.inl ⟨fun k k0 k1 k2 => ?_, b2⟩
                rcases hs k k1 with y | y
                · rw [y, z] at k2; exact absurd k2.symm eg
                · exact b1 k k0 y k2
              · exact Or.inr ⟨k, b1, hl k b2, b3⟩
            · exact (L4 o o0 o1).1 z
  · rw [if_neg c] at ho
    obtain ⟨-, ho⟩ := zg_s ho
    refine hb _ _ ?_ ho
    refine ⟨(show 0 ≤ s.1 + 1 by grind), (show s.1 + 1 ≤ cN by grind), fun o o0 o1 => ?_⟩
    have o1 : o < s.1 + 1 := o1
    show upd s.2 s.1.toNatClampNeg 0 o.toNatClampNeg = 0
    rw [zup H1 o0]
    by_cases q : o = s.1
    · rw [if_pos q]
    · rw [if_neg q]; exact H3 o o0 (by grind)
theorem zHN_of {cF cc cN inp gc gfr gcl : Int32} {nF nN stp mst prc al made amt op fx jn lets gof gfx gld hand mF mN mCst mNF mNN mS mM mC mW mO m1 m2 mX mG mH : Nat → Int32} {mA mB : Nat → Int64} {hand' mH' : Nat → Int32} {hh : Int32} (T : zTN cF cc cN inp nF nN stp mst prc al made amt op fx jn lets mF mN mNF mNN mS mM mC mW mCst mO m1 m2 mX mG mA mB) (G : zGp cN gc gfr gcl gof gfx gld fx mG) (h1 : fn_X2_fillFree 0 gc hand gfx = some hand') (h2 : fn_X12_beginsChoice mN mH mX mG = some (hh, mH')) : zHN cN cF gcl hh gof gfx hand' mH' := by
  obtain ⟨⟨f1, f2, f3⟩, hN, hC, hz, hp, hI, hff, hn, hg⟩ := T
  obtain ⟨b1, b2⟩ := zBegin hN h2
  dsimp only at b1 b2
  have nc := zNC_g hN.2.2 hg G
  have ncx : zNC cN mG mX cN ↔ zNC cN mG fx cN := by
    unfold zNC
    constructor
    · intro q k o k0 k1 o0 o1
      rw [(hn k k0 k1).2.2.1, (hn o o0 o1).2.2.1]; exact q k o k0 k1 o0 o1
    · intro q k o k0 k1 o0 o1
      rw [← (hn k k0 k1).2.2.1, ← (hn o o0 o1).2.2.1]; exact q k o k0 k1 o0 o1
  rw [ncx, ← nc] at b1
  have gb := zRk_b (G := mG) (p := cN) hN.2.1 hN.2.2
  rw [← G.1.1] at gb
  have fr := zFillF ⟨gb.1, by grind⟩ h1
  refine ⟨fun _ => b1, fun _ => b1.elim (fun q => Or.inr q.1) (fun q => Or.inl q.1), fun c0 cl => ?_⟩
  have cF0 := hp c0
  have ncf := nc.mp cl
  have gl : ∀ i : Int32, 0 ≤ i → i < cN → (0 ≤ gof i.toNatClampNeg ∧ gof i.toNatClampNeg < 14) ∧ gof i.toNatClampNeg < gc := by
    intro i i0 i1
    obtain ⟨l1, l2, l3⟩ := hg.1 i i0 i1
    have b1 := zRk_lt (G := mG) l1 (show mG i.toNatClampNeg < cN by grind) hN.2.2 l3
    rw [← G.1.1, ← G.1.2.1 i i0 i1] at b1
    exact ⟨zGofR hN.2.2 hg G ⟨i0, i1⟩, b1⟩
  refine ⟨fun i i0 i1 => ?_, fun i i0 i1 i2 => ?_⟩
  · obtain ⟨a1, a2⟩ := gl i i0 i1
    refine ⟨a1, ?_⟩
    rw [fr _ a1.1 a2]
    have F := zGp_fx hN.2.2 hg G ⟨i0, i1⟩
    rcases b2 i i0 i1 with ⟨k1, k2⟩ | ⟨k, k0, k1, k2, k3, k4⟩
    · have fre : zFree cN mG fx (mG i.toNatClampNeg) := fun o o0 o1 o2 => by rw [(hn o o0 o1).2.2.1]; exact k1 o o0 o1 o2
      rw [if_pos ((zFxS_f F).mpr fre), k2]
      exact ⟨rfl, by decide, cF0⟩
    · have kx := (hn k k0 k1).2.2.1
      obtain ⟨q1, q2, q3, q4, q5, q6, q7, q8, q9, q10, q11⟩ := hn k k0 k1
      rw [← kx] at k3 k4
      rw [k4]
      rcases F with ⟨_, w2⟩ | ⟨_, o, p, b1, b2, b3, b4, b5, b6, b7, b8, b9⟩ | ⟨w1, _, w3⟩
      · exact absurd (w2 k k0 k1 k2) k3
      · rcases ncf o p b1 b2 b3 b4 (b6.trans b5.symm) b7 with z | z
        · exact absurd z b8
        · exact absurd z.symm b9
      · have := (w3 k k0 k1 k2).resolve_left k3
        rw [if_neg (fun q => by rw [q] at w1; exact absurd w1 (by decide)), ← this]
        exact ⟨rfl, by grind, q10.2⟩
  · obtain ⟨a1, a2⟩ := gl i i0 i1
    rw [fr _ a1.1 a2, if_neg i2]
/-! all CHOICES: the c-th one, of both -/
theorem zl_un {τ κ : Type} {D : τ → (τ → Option κ) → Option κ} {t : τ} {o : κ} (h : ∃ m, zl D m t = some o) : ∃ m, D t (zl D m) = some o := by
  obtain ⟨m, h⟩ := h
  cases m with
  | zero => exact (zl_0 h).elim
  | succ m => exact ⟨m, zl_s rfl h⟩
/-- two loops; the first may go on while the second waits -/
theorem zl_ip4 {σ τ ρ κ : Type} {B : σ → (σ → Option ρ) → Option ρ} {D : τ → (τ → Option κ) → Option κ} {P : ρ → κ → Prop} (R : σ → τ → Prop) (hB : ∀ (s : σ) (t : τ) (k1 : σ → Option ρ) (o1 : ρ) (o2 : κ), R s t → (∀ s t o1 o2, R s t → k1 s = some o1 → (∃ m, zl D m t = some o2) → P o1 o2) → B s k1 = some o1 → (∃ m, zl D m t = some o2) → P o1 o2) : ∀ (n : Nat) (s : σ) (t : τ) (o1 : ρ) (o2 : κ), R s t → zl B n s = some o1 → (∃ m, zl D m t = some o2) → P o1 o2 := by
  intro n
  induction n with
  | zero => intro s t o1 o2 _ h _; exact (zl_0 h).elim
  | succ n ih => intro s t o1 o2 hR h1 h2; exact hB s t (zl B n) o1 o2 hR (fun s t o1 o2 hR h1 h2 => ih s t o1 o2 hR h1 h2) (zl_s rfl h1) h2
theorem zct_sj {b : Nat → Bool} : ∀ n : Nat, n ≤ 1000 → ∀ v : Int32, 0 ≤ v → v < zct b n → ∃ k : Nat, k < n ∧ b k = true ∧ zct b k = v := by
  intro n
  induction n with
  | zero => intro _ v h0 h1; exact absurd h1 (by show ¬ v < 0; grind)
  | succ n ih =>
    intro hn v h0 h1
    have hb := zct_b b n (by omega)
    have e : zct b (n + 1) = zct b n + (if b n = true then 1 else 0) := rfl
    by_cases c : b n = true
    · rw [if_pos c] at e
      by_cases d : v = zct b n
      · exact ⟨n, by omega, c, d.symm⟩
      · have lt : v < zct b n := by
          have k1 := zo_add e rfl zi_1' (by omega)
          have k2 := Int32.lt_iff_toInt_lt.mp h1
          have k3 : ¬ v.toInt = (zct b n).toInt := fun q => d (Int32.toInt_inj.mp q)
          exact Int32.lt_iff_toInt_lt.mpr (by omega)
        obtain ⟨k, k1, k2, k3⟩ := ih (by omega) v h0 lt
        exact ⟨k, by omega, k2, k3⟩
    · rw [if_neg c] at e
      rw [e] at h1
      obtain ⟨k, k1, k2, k3⟩ := ih (by omega) v h0 (by rw [Int32.add_zero] at h1; exact h1)
      exact ⟨k, by omega, k2, k3⟩
/-- the least NUMBER of a GROUP, by its place -/
theorem zLead {cN gc gfr gcl : Int32} {fx gof gfx gld mG : Nat → Int32} {g : Int32} (hN : 0 ≤ cN ∧ cN ≤ 14) (G : zGp cN gc gfr gcl gof gfx gld fx mG) (h0 : 0 ≤ g) (h1 : g < gc) : ∃ j : Int32, 0 ≤ j ∧ j < cN ∧ mG j.toNatClampNeg = j ∧ zRk mG j.toNatClampNeg = g := by
  rw [G.1.1] at h1
  have l14 := z14' hN.1 hN.2
  obtain ⟨k, k1, k2, k3⟩ := zct_sj cN.toNatClampNeg (by omega) g h0 h1
  obtain ⟨a1, a2, a3⟩ := zof hN.1 k1
  refine ⟨Int32.ofNat k, a1, a2, ?_, ?_⟩
  · rw [a3]; exact of_decide_eq_true k2
  · rw [a3]; exact k3
noncomputable def zFg (gfx : Nat → Int32) : Nat → Int32 := zct (fun g => decide (gfx g = (-1)))
noncomputable def zUR (cN cF gc : Int32) (gof gfx mG : Nat → Int32) (s t : Int32 × Int32 × (Nat → Int32)) : Prop :=
  t.1 = s.1 ∧ (0 ≤ s.1 ∧ s.1 ≤ 1023) ∧ ((-1) ≤ s.2.1 ∧ s.2.1 < gc) ∧ t.2.1 = zFg gfx (s.2.1 + 1).toNatClampNeg - 1 ∧ (∀ i : Int32, 0 ≤ i → i < cN → (s.2.1 < gof i.toNatClampNeg → s.2.2 (gof i.toNatClampNeg).toNatClampNeg = t.2.2 i.toNatClampNeg ∧ 0 ≤ t.2.2 i.toNatClampNeg ∧ t.2.2 i.toNatClampNeg < cF) ∧ (¬ gfx (gof i.toNatClampNeg).toNatClampNeg = (-1) → t.2.2 i.toNatClampNeg = gfx (gof i.toNatClampNeg).toNatClampNeg ∧ 0 ≤ t.2.2 i.toNatClampNeg ∧ t.2.2 i.toNatClampNeg < cF))
set_option maxHeartbeats 4000000 in
theorem zUnf {cF cc cN inp gc gfr gcl mHh mFn : Int32} {nF nN stp mst prc al made amt op fx jn lets gof gfx gld hand mF mN mCst mNF mNN mS mM mC mW mO m1 m2 mX mG mH mTr mFr : Nat → Int32} {mA mB : Nat → Int64} {c : Int32} {into x y : Nat → Int32} (T : zTN cF cc cN inp nF nN stp mst prc al made amt op fx jn lets mF mN mNF mNN mS mM mC mW mCst mO m1 m2 mX mG mA mB) (G : zGp cN gc gfr gcl gof gfx gld fx mG) (H : zHN cN cF gcl mHh gof gfx hand mH) (cl : 0 < cN ∧ gcl = 0) (hc : 0 ≤ c ∧ c ≤ 1023) (hfn : mFn = zFk gfx mG cN.toNatClampNeg) (hfr : ∀ k : Int32, 0 ≤ k → k < cN → mG k.toNatClampNeg = k → gfx (zRk mG k.toNatClampNeg).toNatClampNeg = (-1) → mFr (zFk gfx mG k.toNatClampNeg).toNatClampNeg = k) (h1 : fn_X1_unfold c cF gc gfx into = some x) (h2 : fn_X12_triesChoice c mFn mN mH mTr mFr mF mG = some y) : zCh cN cF gof x y := by
  have T0 := T
  obtain ⟨⟨f1, f2, f3⟩, hN, hC, hz, hp, hI, hff, hn, hg⟩ := T
  have cF0 : 0 < cF := hp cl.1
  obtain ⟨C, Dx⟩ := H.2.2 cl.1 cl.2
  unfold fn_X1_unfold at h1
  unfold fn_X12_triesChoice at h2
  obtain ⟨th, hth, h2⟩ := zb_s h2
  have tr := zTrH hN hth
  rw [zn01.1, f1] at h2
  have gb := zRk_b (G := mG) (p := cN) hN.2.1 hN.2.2
  rw [← G.1.1] at gb
  have l14 := z14' hN.2.1 hN.2.2
  have ef : zFg gfx gc.toNatClampNeg = zFk gfx mG cN.toNatClampNeg := by rw [G.1.1]; exact zFreeC gfx mG cN.toNatClampNeg l14
  have gr : ∀ i : Int32, 0 ≤ i → i < cN → (0 ≤ gof i.toNatClampNeg ∧ gof i.toNatClampNeg < 14) ∧ gof i.toNatClampNeg < gc := by
    intro i i0 i1
    obtain ⟨l1, l2, l3⟩ := hg.1 i i0 i1
    have b1 := zRk_lt (G := mG) l1 (show mG i.toNatClampNeg < cN by grind) hN.2.2 l3
    rw [← G.1.1, ← G.1.2.1 i i0 i1] at b1
    exact ⟨zGofR hN.2.2 hg G ⟨i0, i1⟩, b1⟩
  refine zl_ip4 (P := fun x y => zCh cN cF gof x y) (fun s t => zUR cN cF gc gof gfx mG s t) ?_ _ _ _ _ _ ?_ h1 ⟨_, h2⟩
  · intro s t k1 o1 o2 ⟨R1, R2, R3, R4, R5⟩ hb ho1 ho2
    obtain ⟨rest, g, row⟩ := s
    obtain ⟨left, k, tt⟩ := t
    dsimp only at R1 R2 R3 R4 R5
    subst R1
    by_cases c1 : g < 0
    · rw [if_pos c1] at ho1
      obtain ⟨m, ho2⟩ := zl_un ho2
      have k0 : k < 0 := by
        rw [R4, show g = (-1) by grind, show ((-1) + 1 : Int32).toNatClampNeg = 0 by decide +kernel]
        show (0 : Int32) - 1 < 0
        decide
      rw [if_pos k0] at ho2
      rw [← Option.some.inj ho1, ← Option.some.inj ho2]
      intro i i0 i1
      obtain ⟨a1, a2⟩ := gr i i0 i1
      exact ⟨a1, (R5 i i0 i1).1 (by grind)⟩
    · rw [if_neg c1] at ho1
      obtain ⟨-, ho1⟩ := zg_s ho1
      simp only [zn] at ho1
      have g0 : 0 ≤ g := by grind
      have g14 : g < 14 := by grind
      by_cases d : gfx g.toNatClampNeg = (-1)
      · rw [if_pos d, if_neg (show ¬ cF ≤ 0 by grind)] at ho1
        obtain ⟨-, ho1⟩ := zd_s ho1
        obtain ⟨-, ho1⟩ := zd_s ho1
        have e1 : zFg gfx (g + 1).toNatClampNeg = zFg gfx g.toNatClampNeg + 1 := zct_t g0 (by grind) (decide_eq_true d)
        have b1 : 0 ≤ zFg gfx g.toNatClampNeg ∧ zFg gfx g.toNatClampNeg ≤ g := zct_b32 g0 (by grind)
        rw [e1] at R4
        have ek : k = zFg gfx g.toNatClampNeg := by rw [R4]; generalize zFg gfx g.toNatClampNeg = q at b1; grind
        obtain ⟨m, ho2⟩ := zl_un ho2
        rw [if_neg (show ¬ k < 0 by rw [ek]; grind)] at ho2
        obtain ⟨-, ho2⟩ := zg_s ho2
        obtain ⟨-, ho2⟩ := zd_s ho2
        simp only [zn] at ho2
        obtain ⟨tg, htg, ho2⟩ := zb_s ho2
        obtain ⟨-, ho2⟩ := zd_s ho2
        obtain ⟨j, j0, j1, j2, j3⟩ := zLead hN.2 G g0 R3.2
        have ej : mFr k.toNatClampNeg = j := by
          have := hfr j j0 j1 j2 (by rw [j3]; exact d)
          have e9 : zFg gfx (zRk mG j.toNatClampNeg).toNatClampNeg = zFk gfx mG j.toNatClampNeg := zFreeC gfx mG j.toNatClampNeg (z14' j0 (by grind))
          rw [← e9, j3] at this
          rw [ek]; exact this
        rw [ej] at htg
        have tgs := zTrG hN htg
        obtain ⟨d1, d2, d3, d4⟩ := zdivm left cF R2.1 R2.2 (by grind) f3
        refine hb _ _ _ _ ?_ ho1 ⟨m, ho2⟩
        refine ⟨rfl, ⟨d1, (show left / cF ≤ 1023 by grind)⟩, ⟨(show (-1) ≤ g + (-1) by grind), (show g + (-1) < gc by grind)⟩, ?_, fun i i0 i1 => ?_⟩
        · show k + (-1) = zFg gfx (g + (-1) + 1).toNatClampNeg - 1
          rw [show g + (-1) + 1 = g by grind, ek]
          generalize zFg gfx g.toNatClampNeg = q
          grind
        · obtain ⟨a1, a2⟩ := gr i i0 i1
          have same : mG i.toNatClampNeg = j ↔ gof i.toNatClampNeg = g := by
            have ej2 : gof j.toNatClampNeg = g := by rw [G.1.2.1 j j0 j1, j2, j3]
            have := zGp_eq hN.2.2 hg G ⟨i0, i1⟩ ⟨j0, j1⟩
            rw [ej2, j2] at this
            exact this.symm
          show (g + (-1) < gof i.toNatClampNeg → upd (upd row g.toNatClampNeg (gfx g.toNatClampNeg)) g.toNatClampNeg (left - left / cF * cF) (gof i.toNatClampNeg).toNatClampNeg = tg i.toNatClampNeg ∧ 0 ≤ tg i.toNatClampNeg ∧ tg i.toNatClampNeg < cF) ∧ (¬ gfx (gof i.toNatClampNeg).toNatClampNeg = (-1) → tg i.toNatClampNeg = gfx (gof i.toNatClampNeg).toNatClampNeg ∧ 0 ≤ tg i.toNatClampNeg ∧ tg i.toNatClampNeg < cF)
          rw [tgs i i0 i1, zup g0 a1.1, zup g0 a1.1]
          by_cases w : gof i.toNatClampNeg = g
          · rw [if_pos w, if_pos (same.mpr w)]
            exact ⟨fun _ => ⟨rfl, d3, d4⟩, fun q => absurd (by rw [w]; exact d) q⟩
          · rw [if_neg w, if_neg w, if_neg (fun q => w (same.mp q))]
            exact ⟨fun q => (R5 i i0 i1).1 (by grind), (R5 i i0 i1).2⟩
      · rw [if_neg d] at ho1
        have e1 : zFg gfx (g + 1).toNatClampNeg = zFg gfx g.toNatClampNeg := zct_f g0 (by grind) (fun q => d (of_decide_eq_true q))
        refine hb _ _ _ _ ?_ ho1 ho2
        refine ⟨rfl, R2, ⟨(show (-1) ≤ g + (-1) by grind), (show g + (-1) < gc by grind)⟩, ?_, fun i i0 i1 => ?_⟩
        · show k = zFg gfx (g + (-1) + 1).toNatClampNeg - 1
          rw [show g + (-1) + 1 = g by grind, R4, e1]
        · obtain ⟨a1, a2⟩ := gr i i0 i1
          show (g + (-1) < gof i.toNatClampNeg → upd row g.toNatClampNeg (gfx g.toNatClampNeg) (gof i.toNatClampNeg).toNatClampNeg = tt i.toNatClampNeg ∧ 0 ≤ tt i.toNatClampNeg ∧ tt i.toNatClampNeg < cF) ∧ (¬ gfx (gof i.toNatClampNeg).toNatClampNeg = (-1) → tt i.toNatClampNeg = gfx (gof i.toNatClampNeg).toNatClampNeg ∧ 0 ≤ tt i.toNatClampNeg ∧ tt i.toNatClampNeg < cF)
          rw [zup g0 a1.1]
          refine ⟨fun q => ?_, (R5 i i0 i1).2⟩
          by_cases w : gof i.toNatClampNeg = g
          · rw [if_pos w]
            have := (R5 i i0 i1).2 (by rw [w]; exact d)
            rw [w] at this
            exact ⟨this.1.symm, this.2⟩
          · rw [if_neg w]; exact (R5 i i0 i1).1 (by grind)
  · refine ⟨rfl, hc, ⟨(show (-1) ≤ gc - 1 by grind), (show gc - 1 < gc by grind)⟩, ?_, fun i i0 i1 => ⟨fun q => ?_, fun q => ?_⟩⟩
    · show mFn - 1 = zFg gfx (gc - 1 + 1).toNatClampNeg - 1
      rw [show gc - 1 + 1 = gc by grind, ef, hfn]
    · exact absurd (gr i i0 i1).2 (by have q : gc - 1 < gof i.toNatClampNeg := q; grind)
    · obtain ⟨c1, c2, c3, c4⟩ := C i i0 i1
      show th i.toNatClampNeg = gfx (gof i.toNatClampNeg).toNatClampNeg ∧ 0 ≤ th i.toNatClampNeg ∧ th i.toNatClampNeg < cF
      rw [tr i i0 i1, ← Dx i i0 i1 q, c2]
      exact ⟨rfl, c3, c4⟩
/-! all CHOICES, one after the other: what the class finds of the c-th, what the reference does -/
theorem zlt1 {k c : Int32} (hk : 0 ≤ k ∧ k < 100000) (h : c < k + 1) : c = k ∨ c < k := by grind
theorem zlt2 {k c : Int32} (hk : 0 ≤ k ∧ k < 100000) (h : c < k) : c < k + 1 := by grind
theorem zlt3 {k : Int32} (hk : 0 ≤ k ∧ k < 100000) : k < k + 1 ∧ 0 ≤ k + 1 := by grind
theorem zltt {a b c : Int32} (h1 : a < b) (h2 : b < c) : a < c := by grind
theorem zor1 {a b x y : Int32} (h : a ≤ b) (h2 : x < y) : a < b ∨ a = b ∧ x ≤ y := by grind
theorem zbb {p q b c : Int32} (h1 : p < q ∨ p = q ∧ b ≤ c) (h2 : q < p ∨ q = p ∧ c ≤ b) : b = c := by grind
theorem zN14 {k c : Int32} (h0 : 0 ≤ k) (h1 : k < c) (h2 : c ≤ 14) : (0 ≤ k ∧ k < 100000) ∧ k < 14 ∧ k ≤ 14 ∧ k ≤ 1200 ∧ 0 ≤ k + 1 ∧ k + 1 ≤ c := by grind
theorem zN1k {k c : Int32} (h0 : 0 ≤ k) (h1 : k < c) (h2 : c ≤ 1024) : (0 ≤ k ∧ k ≤ 1023) ∧ k ≤ 1200 ∧ (0 ≤ k + 1 ∧ k + 1 ≤ c) ∧ k ≤ 1024 := by grind
theorem zNab {a k b : Int32} (h0 : 0 ≤ k) (ha : a ≤ k) (h1 : k < b) (h2 : b ≤ 14) : (0 ≤ k ∧ k < 100000) ∧ a ≤ k + 1 ∧ k + 1 ≤ b := by grind
theorem zNe {i j : Int32} (h : ¬ i = j) : i < j ∨ j < i := by grind
theorem zIs3 {p : Int32} (d : 0 ≤ p ∧ p ≤ 3) (e0 : ¬ p = 0) (e1 : ¬ p = 1) (e2 : ¬ p = 2) : p = 3 := by grind
theorem zLe1 {a j : Int32} (ha : 0 ≤ a ∧ a < 100) (q : a + 1 ≤ j) : a ≤ j := by grind
theorem zBx1 {a b : Int32} (hb : 0 ≤ b ∧ b ≤ 25) (ha : 0 ≤ a) (hab : a < b) : 0 ≤ b + 1 ∧ ¬ b + 1 = b ∧ 0 ≤ a + 1 := by grind
theorem zSp1 {a b j : Int32} (hb : 0 ≤ b ∧ b ≤ 25) (ha : 0 ≤ a) (hab : a < b) (q1 : a + 1 ≤ j) (q2 : j < b + 2) : 0 ≤ j ∧ (j = b ∨ j = b + 1 ∨ (a ≤ j ∧ j < b ∧ ¬ j = a ∧ ¬ j = b ∧ ¬ j = b + 1)) := by
  have k1 := Int32.le_iff_toInt_le.mp hb.1
  have k2 := Int32.le_iff_toInt_le.mp hb.2
  have k3 := Int32.le_iff_toInt_le.mp ha
  have k4 := Int32.lt_iff_toInt_lt.mp hab
  have k5 := Int32.le_iff_toInt_le.mp q1
  have k6 := Int32.lt_iff_toInt_lt.mp q2
  rw [zi_0] at k1 k3
  rw [show (25 : Int32).toInt = 25 by decide +kernel] at k2
  have e1 := zo_add (x := a) (y := 1) (z := a + 1) rfl rfl zi_1' (by omega)
  have e2 := zo_add (x := b) (y := 2) (z := b + 2) rfl rfl (show (2 : Int32).toInt = 2 by decide +kernel) (by omega)
  have e3 := zo_add (x := b) (y := 1) (z := b + 1) rfl rfl zi_1' (by omega)
  refine ⟨Int32.le_iff_toInt_le.mpr (by rw [zi_0]; omega), ?_⟩
  by_cases p : j = b
  · exact Or.inl p
  · by_cases q : j = b + 1
    · exact Or.inr (Or.inl q)
    · have p' : ¬ j.toInt = b.toInt := fun z => p (Int32.toInt_inj.mp z)
      have q' : ¬ j.toInt = b.toInt + 1 := fun z => q (Int32.toInt_inj.mp (by rw [e3]; exact z))
      refine Or.inr (Or.inr ⟨Int32.le_iff_toInt_le.mpr (by omega), Int32.lt_iff_toInt_lt.mpr (by omega), fun z => ?_, p, q⟩)
      rw [z] at k5
      omega
theorem zP28 {p : Int32} (h : p ≤ 26) : ¬ 28 ≤ p ∧ p < 100 := by grind
theorem zPj1 {p j : Int32} (h0 : 0 ≤ p ∧ p < 100) (q : p + 1 ≤ j) : p ≤ j ∧ ¬ p = j := by grind
theorem zPs2 {p : Int32} (h0 : 0 ≤ p) (h : p ≤ 25) : p < 28 ∧ p + 1 < 28 ∧ p + 1 + 1 = p + 2 := by grind
theorem zOne {x : Int32} (h : ¬ x ≤ 0) : 1 ≤ x := by grind
theorem zNul {j : Int32} (h0 : 0 ≤ j) (h1 : j < 1) : j = 0 := by grind
theorem zDn1 {k c : Int32} (k0 : 0 ≤ k) (h : k < c) (hc : c ≤ 14) : (-1) ≤ k + (-1) ∧ k + (-1) < c := by grind
theorem zDn2 {k g : Int32} (k0 : 0 ≤ k) (h : k ≤ 100) (q : k + (-1) < g) : g = k ∨ k < g := by grind
theorem zK23 {b q : Int32} (h : b < q) (h2 : q ≤ 1024) : b ≤ 1023 := by grind
theorem zAp20 {v : Int32} (hv : 0 ≤ v ∧ v ≤ 1200) : v ≤ 1180 ↔ v + 20 ≤ 1200 := by grind
theorem zW1 {x : Int32} (h : (-1) ≤ x) (c : ¬ x = (-1)) : 0 ≤ x ∧ ¬ x < 0 := by grind
theorem zW2 {x c : Int32} (h : x < c) (h2 : c ≤ 14) : x < 14 := by grind
theorem zOp15 {x : Int32} (h : 0 ≤ x ∧ x ≤ 5) (c : ¬ x = 0) : 1 ≤ x ∧ x ≤ 5 := by grind
theorem zNz1 {v w : Int32} (h : 0 ≤ v) (l : v < w) : ¬ w = 0 := by grind
theorem zNm1 {v w : Int32} (l : v < w) (h : w ≤ 10000000) : ¬ v = 10000000 := by grind
theorem zVx1 {v w : Int32} (h : 0 ≤ v) (l : v < w) (hw : w ≤ 10000000) : 0 ≤ v + 1 ∧ ¬ w < v + 1 := by grind
theorem zBg1 {a b : Int32} (h0 : 0 ≤ a) (h : a < b) (h2 : b ≤ 10000000) (l : b - a ≤ 1) : b = a + 1 := by grind
theorem zN32 {n : Int32} (h : 0 ≤ n) (k : ¬ 32 ≤ n) : 0 ≤ n + 1 ∧ n + 1 ≤ 32 := by grind
theorem zMm1 {a m : Int32} (h0 : 0 ≤ a) (h : a < m) (h2 : m ≤ 10000000) : a ≤ m - 1 ∧ m - 1 ≤ 10000000 ∧ m - 1 + 1 = m ∧ 0 ≤ m := by grind
theorem zct_bB (b : Nat → Bool) : ∀ k : Nat, k ≤ 2000 → 0 ≤ (zct b k).toInt ∧ (zct b k).toInt ≤ (k : Int) := by
  intro k
  induction k with
  | zero => intro _; show 0 ≤ (0 : Int32).toInt ∧ (0 : Int32).toInt ≤ 0; rw [zi_0]; omega
  | succ k ih =>
    intro hk
    have h := ih (by omega)
    show 0 ≤ (zct b k + (if b k = true then 1 else 0)).toInt ∧ (zct b k + (if b k = true then 1 else 0)).toInt ≤ ((k + 1 : Nat) : Int)
    by_cases c : b k = true
    · rw [if_pos c]
      have := zo_add (x := zct b k) (y := 1) (z := zct b k + 1) rfl rfl zi_1' (by omega)
      omega
    · rw [if_neg c]
      have := zo_add (x := zct b k) (y := 0) (z := zct b k + 0) rfl rfl zi_0 (by omega)
      omega
theorem zct_mB (b : Nat → Bool) (k : Nat) : ∀ j : Nat, k + j ≤ 2000 → (zct b k).toInt ≤ (zct b (k + j)).toInt := by
  intro j
  induction j with
  | zero => intro _; exact Int.le_refl _
  | succ j ih =>
    intro hk
    have h := ih (by omega)
    have hb := zct_bB b (k + j) (by omega)
    have e : zct b (k + (j + 1)) = zct b (k + j) + (if b (k + j) = true then 1 else 0) := rfl
    by_cases c : b (k + j) = true
    · rw [if_pos c] at e
      have := zo_add (x := zct b (k + j)) (y := 1) e rfl zi_1' (by omega)
      omega
    · rw [if_neg c] at e
      have := zo_add (x := zct b (k + j)) (y := 0) e rfl zi_0 (by omega)
      omega
theorem zct_bI {b : Nat → Bool} {k : Int32} (h0 : 0 ≤ k) (h1 : k ≤ 1024) : 0 ≤ zct b k.toNatClampNeg ∧ zct b k.toNatClampNeg ≤ k := by
  have hp := (zofn k h0).2
  have h2 := Int32.le_iff_toInt_le.mp h1
  rw [show (1024 : Int32).toInt = 1024 by decide +kernel] at h2
  have h := zct_bB b k.toNatClampNeg (by omega)
  exact ⟨Int32.le_iff_toInt_le.mpr (by rw [zi_0]; exact h.1), Int32.le_iff_toInt_le.mpr (by omega)⟩
theorem zct_lI {b : Nat → Bool} {j k : Int32} (h0 : 0 ≤ j) (h1 : j < k) (h2 : k ≤ 1024) (hb : b j.toNatClampNeg = true) : zct b j.toNatClampNeg < zct b k.toNatClampNeg := by
  have hj := (zofn j h0).2
  have hk := (zofn k (by grind)).2
  have k1 := Int32.lt_iff_toInt_lt.mp h1
  have k2 := Int32.le_iff_toInt_le.mp h2
  rw [show (1024 : Int32).toInt = 1024 by decide +kernel] at k2
  have m := zct_mB b (j.toNatClampNeg + 1) (k.toNatClampNeg - (j.toNatClampNeg + 1)) (by omega)
  rw [show j.toNatClampNeg + 1 + (k.toNatClampNeg - (j.toNatClampNeg + 1)) = k.toNatClampNeg by omega] at m
  have e : zct b (j.toNatClampNeg + 1) = zct b j.toNatClampNeg + (if b j.toNatClampNeg = true then 1 else 0) := rfl
  rw [if_pos hb] at e
  have hbj := zct_bB b j.toNatClampNeg (by omega)
  have := zo_add (x := zct b j.toNatClampNeg) (y := 1) e rfl zi_1' (by omega)
  exact Int32.lt_iff_toInt_lt.mpr (by omega)
/-! a row of anything, with one place anew -/
noncomputable def zUp {α : Type} (f : Nat → α) (k : Nat) (v : α) : Nat → α := fun n => if n = k then v else f n
theorem zUp_s {α : Type} {f : Nat → α} {k : Nat} {v : α} : zUp f k v k = v := if_pos rfl
theorem zUp_o {α : Type} {f : Nat → α} {k n : Nat} {v : α} (h : n < k) : zUp f k v n = f n := if_neg (Nat.ne_of_lt h)
/-- the cheapest of those that PASS, of like ones the first -/
noncomputable def zBs (k : Int32) (ok pr : Nat → Int32) (b bp : Int32) : Prop := (b = (-1) ∧ ∀ c : Int32, 0 ≤ c → c < k → ok c.toNatClampNeg = 0) ∨ ((0 ≤ b ∧ b < k) ∧ ¬ ok b.toNatClampNeg = 0 ∧ bp = pr b.toNatClampNeg ∧ ∀ c : Int32, 0 ≤ c → c < k → ¬ ok c.toNatClampNeg = 0 → pr b.toNatClampNeg < pr c.toNatClampNeg ∨ pr b.toNatClampNeg = pr c.toNatClampNeg ∧ b ≤ c)
theorem zBs_0 {ok pr : Nat → Int32} {bp : Int32} : zBs 0 ok pr (-1) bp := Or.inl ⟨rfl, fun c c0 c1 => absurd c1 (by show ¬ c < 0; grind)⟩
theorem zBs_no {k b bp : Int32} {ok pr : Nat → Int32} (hk : 0 ≤ k ∧ k < 100000) (h : zBs k ok pr b bp) (ho : ok k.toNatClampNeg = 0) : zBs (k + 1) ok pr b bp := by
  rcases h with ⟨a1, a2⟩ | ⟨a1, a2, a3, a4⟩
  · refine Or.inl ⟨a1, fun c c0 c1 => ?_⟩
    rcases zlt1 hk c1 with w | w
    · rw [w]; exact ho
    · exact a2 c c0 w
  · refine Or.inr ⟨⟨a1.1, zlt2 hk a1.2⟩, a2, a3, fun c c0 c1 c2 => ?_⟩
    rcases zlt1 hk c1 with w | w
    · rw [w] at c2; exact absurd ho c2
    · exact a4 c c0 w c2
theorem zBs_up {k b bp : Int32} {ok pr : Nat → Int32} (hk : 0 ≤ k ∧ k < 100000) (h : zBs k ok pr b bp) (ho : ¬ ok k.toNatClampNeg = 0) (hb : b = (-1) ∨ pr k.toNatClampNeg < bp) : zBs (k + 1) ok pr k (pr k.toNatClampNeg) := by
  refine Or.inr ⟨⟨hk.1, (zlt3 hk).1⟩, ho, rfl, fun c c0 c1 c2 => ?_⟩
  rcases zlt1 hk c1 with w | w
  · rw [w]; exact Or.inr ⟨rfl, Int32.le_refl _⟩
  · left
    rcases h with ⟨a1, a2⟩ | ⟨a1, a2, a3, a4⟩
    · exact absurd (a2 c c0 w) c2
    · have lt : pr k.toNatClampNeg < pr b.toNatClampNeg := by
        rcases hb with q | q
        · rw [q] at a1; exact absurd a1.1 (by decide)
        · rw [a3] at q; exact q
      rcases a4 c c0 w c2 with z | z
      · exact zltt lt z
      · rw [← z.1]; exact lt
theorem zBs_st {k b bp : Int32} {ok pr : Nat → Int32} (hk : 0 ≤ k ∧ k < 100000) (h : zBs k ok pr b bp) (hb : ¬ b = (-1)) (hl : bp ≤ pr k.toNatClampNeg) : zBs (k + 1) ok pr b bp := by
  rcases h with ⟨a1, _⟩ | ⟨a1, a2, a3, a4⟩
  · exact absurd a1 hb
  · refine Or.inr ⟨⟨a1.1, zlt2 hk a1.2⟩, a2, a3, fun c c0 c1 c2 => ?_⟩
    rcases zlt1 hk c1 with w | w
    · rw [w]; rw [a3] at hl; exact zor1 hl a1.2
    · exact a4 c c0 w c2
theorem zBs_eq {k b bp b' bp' : Int32} {ok pr : Nat → Int32} (h : zBs k ok pr b bp) (h' : zBs k ok pr b' bp') : b = b' ∧ (¬ b = (-1) → bp = bp') := by
  rcases h with ⟨a1, a2⟩ | ⟨a1, a2, a3, a4⟩
  · rcases h' with ⟨b1, b2⟩ | ⟨b1, b2, b3, b4⟩
    · exact ⟨a1.trans b1.symm, fun q => absurd a1 q⟩
    · exact absurd (a2 b' b1.1 b1.2) b2
  · rcases h' with ⟨b1, b2⟩ | ⟨b1, b2, b3, b4⟩
    · exact absurd (b2 b a1.1 a1.2) a2
    · have e := zbb (a4 b' b1.1 b1.2 b2) (b4 b a1.1 a1.2 a2)
      refine ⟨e, fun _ => ?_⟩
      rw [a3, b3, e]
theorem zBs_c {k b bp : Int32} {ok pr ok' pr' : Nat → Int32} (h : zBs k ok pr b bp) (hc : ∀ n : Nat, n < k.toNatClampNeg → ok' n = ok n ∧ pr' n = pr n) : zBs k ok' pr' b bp := by
  rcases h with ⟨a1, a2⟩ | ⟨a1, a2, a3, a4⟩
  · refine Or.inl ⟨a1, fun c c0 c1 => ?_⟩
    rw [(hc _ (zcl' c0 c1)).1]; exact a2 c c0 c1
  · have e := hc _ (zcl' a1.1 a1.2)
    refine Or.inr ⟨a1, by rw [e.1]; exact a2, by rw [e.2]; exact a3, fun c c0 c1 c2 => ?_⟩
    have f := hc _ (zcl' c0 c1)
    rw [f.1] at c2
    rw [e.2, f.2]
    exact a4 c c0 c1 c2
noncomputable def zTry (cF cc cN gc : Int32) (gof gfx stp mst prc al made amt op : Nat → Int32) (rlo rhi : Nat → Int64) (c ok pr : Int32) (er : Nat → Int64) : Prop := ∃ (into row : Nat → Int32) (er0 : Nat → Int64) (fa rs : Int32), fn_X1_unfold c cF gc gfx into = some row ∧ fn_X7_reckon cF cN gof row stp op made er0 amt rlo rhi mst al = some (ok, fa, rs, er) ∧ (¬ ok = 0 → fn_X9_priceOf cF cc cN made gof row prc = some pr)
noncomputable def zFL (cN mFn : Int32) (gfx mG mFr : Nat → Int32) : Prop := mFn = zFk gfx mG cN.toNatClampNeg ∧ ∀ k : Int32, 0 ≤ k → k < cN → mG k.toNatClampNeg = k → gfx (zRk mG k.toNatClampNeg).toNatClampNeg = (-1) → mFr (zFk gfx mG k.toNatClampNeg).toNatClampNeg = k
theorem zTryPass {cF cc cN inp gc gfr gcl mHh mFn : Int32} {nF nN stp mst prc al made amt op fx jn lets gof gfx gld rwd hand mF mN mCst mNF mNN mS mM mC mW mO m1 m2 mX mG mH mTr mFr : Nat → Int32} {rlo rhi mA mB mLe mGe mEr : Nat → Int64} {mWb : Int64} {c ok pr : Int32} {er : Nat → Int64} {t : Nat → Int32} {y : Int32 × Int32 × Int32 × (Nat → Int64) × (Nat → Int64) × (Nat → Int64)} (T : zTN cF cc cN inp nF nN stp mst prc al made amt op fx jn lets mF mN mNF mNN mS mM mC mW mCst mO m1 m2 mX mG mA mB) (G : zGp cN gc gfr gcl gof gfx gld fx mG) (R : zRN cN (-1) 0 op made amt rwd rlo rhi) (H : zHN cN cF gcl mHh gof gfx hand mH) (cl : 0 < cN ∧ gcl = 0) (hc : 0 ≤ c ∧ c ≤ 1023) (L : zFL cN mFn gfx mG mFr) (h : zTry cF cc cN gc gof gfx stp mst prc al made amt op rlo rhi c ok pr er) (ht : fn_X12_triesChoice c mFn mN mH mTr mFr mF mG = some t) (hp : fn_X12_passes (-1) mWb mN mO m1 m2 mLe mA mB mGe t mS mEr mM mW = some y) : y.1 = ok ∧ (ok = 0 ∨ ok = 1) ∧ (ok = 1 → ∀ j : Int32, 0 ≤ j → j < cN → y.2.2.2.2.2 j.toNatClampNeg = er j.toNatClampNeg ∧ 0 ≤ (er j.toNatClampNeg).toInt ∧ (er j.toNatClampNeg).toInt ≤ 1000000000) := by
  obtain ⟨into, row, er0, fa, rs, e1, e2, e3⟩ := h
  have C := zUnf T G H cl hc L.1 L.2 e1 ht
  obtain ⟨p1, -, -, p4⟩ := zPassEq (wd := rwd) T (zRN_1 R) (Or.inl rfl) C e2 hp
  dsimp only at p1 p4
  refine ⟨p1.symm, ?_, fun w j j0 j1 => ?_⟩
  · rcases p4 with ⟨w, _⟩ | ⟨w, _⟩
    · exact Or.inr w
    · exact Or.inl w
  · rcases p4 with ⟨_, _, _, q⟩ | ⟨w2, _⟩
    · obtain ⟨a1, -, -, a4, -⟩ := q j j0 j1
      exact ⟨a1.symm, a4⟩
    · rw [w] at w2; exact absurd w2 (by decide)
theorem zTryCost {cF cc cN inp gc gfr gcl mHh mFn : Int32} {nF nN stp mst prc al made amt op fx jn lets gof gfx gld hand mF mN mCst mNF mNN mS mM mC mW mO m1 m2 mX mG mH mTr mFr : Nat → Int32} {rlo rhi mA mB : Nat → Int64} {c ok pr w : Int32} {er : Nat → Int64} {t : Nat → Int32} (T : zTN cF cc cN inp nF nN stp mst prc al made amt op fx jn lets mF mN mNF mNN mS mM mC mW mCst mO m1 m2 mX mG mA mB) (G : zGp cN gc gfr gcl gof gfx gld fx mG) (H : zHN cN cF gcl mHh gof gfx hand mH) (cl : 0 < cN ∧ gcl = 0) (hc : 0 ≤ c ∧ c ≤ 1023) (L : zFL cN mFn gfx mG mFr) (h : zTry cF cc cN gc gof gfx stp mst prc al made amt op rlo rhi c ok pr er) (ht : fn_X12_triesChoice c mFn mN mH mTr mFr mF mG = some t) (hp : fn_X12_costTried mCst mN m1 t m2 mC = some w) (ok0 : ¬ ok = 0) : w = pr := by
  obtain ⟨into, row, er0, fa, rs, e1, e2, e3⟩ := h
  exact (zPriceEq T (zUnf T G H cl hc L.1 L.2 e1 ht) (e3 ok0) hp).symm
/-! what the class keeps of all CHOICES -/
noncomputable def zAn (al : Nat → Int32) : Nat → Int32 := zct (fun k => decide (¬ al k = (-1)))
noncomputable def zOc (ok : Nat → Int32) : Nat → Int32 := zct (fun k => decide (¬ ok k = 0))
noncomputable def zFS (cF cc cN gc : Int32) (gof gfx stp mst prc al made amt op : Nat → Int32) (rlo rhi : Nat → Int64) (k ans : Int32) (ok pr : Nat → Int32) (er : Nat → Nat → Int64) (many b bp : Int32) (P E : Nat → Int32) : Prop :=
  (∀ c : Int32, 0 ≤ c → c < k → zTry cF cc cN gc gof gfx stp mst prc al made amt op rlo rhi c (ok c.toNatClampNeg) (pr c.toNatClampNeg) (er c.toNatClampNeg)) ∧ many = zOc ok k.toNatClampNeg ∧ zBs k ok pr b bp ∧ (∀ c : Int32, 0 ≤ c → c < k → ¬ ok c.toNatClampNeg = 0 → P (zOc ok c.toNatClampNeg).toNatClampNeg = pr c.toNatClampNeg ∧ ∀ i : Int32, 0 ≤ i → i < cN → ¬ al i.toNatClampNeg = (-1) → E (zOc ok c.toNatClampNeg * ans + zAn al i.toNatClampNeg).toNatClampNeg = (er c.toNatClampNeg i.toNatClampNeg).toInt32)
theorem zOc_c {ok ok' : Nat → Int32} {k : Nat} (h : ∀ n : Nat, n < k → ok' n = ok n) : zOc ok' k = zOc ok k := zct_c _ (fun j hj => by rw [h j hj])
theorem zidx {q m a s : Int32} (hq : 0 ≤ q) (hqm : q < m) (hm : m ≤ 1024) (ha : a ≤ 14) (hs : 0 ≤ s) (hsa : s < a) : 0 ≤ q * a + s ∧ q * a + s < m * a ∧ q * a + a ≤ m * a ∧ 0 ≤ q * a ∧ q * a ≤ 14336 := by
  have k1 := Int32.le_iff_toInt_le.mp hq
  have k2 := Int32.lt_iff_toInt_lt.mp hqm
  have k3 := Int32.le_iff_toInt_le.mp hm
  have k4 := Int32.le_iff_toInt_le.mp ha
  have k5 := Int32.le_iff_toInt_le.mp hs
  have k6 := Int32.lt_iff_toInt_lt.mp hsa
  rw [zi_0] at k1 k5
  rw [show (1024 : Int32).toInt = 1024 by decide +kernel] at k3
  rw [show (14 : Int32).toInt = 14 by decide +kernel] at k4
  have m1 : (q.toInt + 1) * a.toInt ≤ m.toInt * a.toInt := Int.mul_le_mul_of_nonneg_right (by omega) (by omega)
  have m2 : m.toInt * a.toInt ≤ 1024 * 14 := Int.mul_le_mul (by omega) (by omega) (by omega) (by omega)
  have m3 : 0 ≤ q.toInt * a.toInt := Int.mul_nonneg (by omega) (by omega)
  have m4 : (q.toInt + 1) * a.toInt = q.toInt * a.toInt + a.toInt := by rw [Int.add_mul, Int.one_mul]
  have e1 := zo_mul (x := q) (y := a) (z := q * a) rfl rfl rfl (by omega)
  have e2 := zo_mul (x := m) (y := a) (z := m * a) rfl rfl rfl (by omega)
  have e3 := zo_add (x := q * a) (y := s) (z := q * a + s) rfl e1 rfl (by omega)
  have e4 := zo_add (x := q * a) (y := a) (z := q * a + a) rfl e1 rfl (by omega)
  refine ⟨Int32.le_iff_toInt_le.mpr (by rw [zi_0]; omega), Int32.lt_iff_toInt_lt.mpr (by omega), Int32.le_iff_toInt_le.mpr (by omega), Int32.le_iff_toInt_le.mpr (by rw [zi_0]; omega), Int32.le_iff_toInt_le.mpr ?_⟩
  rw [show (14336 : Int32).toInt = 14336 by decide +kernel]
  omega
theorem zidx0 {q m a N : Int32} (hq : 0 ≤ q) (hqm : q < m) (hm : m ≤ 1024) (ha : 0 ≤ a ∧ a ≤ 14) (hN : m * a ≤ N) : 0 ≤ q * a ∧ q * a ≤ 14336 ∧ q * a + a ≤ N := by
  by_cases c : a = 0
  · rw [c] at hN ⊢
    rw [Int32.mul_zero] at hN ⊢
    rw [Int32.add_zero]
    exact ⟨by decide, by decide, hN⟩
  · obtain ⟨-, -, z3, z4, z5⟩ := zidx hq hqm hm ha.2 (Int32.le_refl 0) (show 0 < a by grind)
    exact ⟨z4, z5, by grind⟩
theorem zi14b {i c : Int32} (h0 : 0 ≤ i) (h1 : i < c) (h2 : c ≤ 14) : 0 ≤ i + 1 ∧ i + 1 ≤ c ∧ i ≤ 14 ∧ i ≤ 1200 := by grind
theorem zi15 {i c : Int32} (h1 : i < c) (h2 : c ≤ 14) : i < 100000 := by grind
theorem zan1 {B ans N5 z : Int32} (hB : 0 ≤ B ∧ B ≤ 14336) (ha : ans ≤ 14) (h5 : B + ans ≤ N5) (h0 : 0 ≤ z) (h1 : z < ans) : ¬ N5 ≤ B + z ∧ 0 ≤ B + z ∧ B ≤ B + z := by
  have k1 := Int32.le_iff_toInt_le.mp hB.1
  have k2 := Int32.le_iff_toInt_le.mp hB.2
  have k3 := Int32.le_iff_toInt_le.mp ha
  have k4 := Int32.le_iff_toInt_le.mp h5
  have k5 := Int32.le_iff_toInt_le.mp h0
  have k6 := Int32.lt_iff_toInt_lt.mp h1
  rw [zi_0] at k1 k5
  rw [show (14336 : Int32).toInt = 14336 by decide +kernel] at k2
  rw [show (14 : Int32).toInt = 14 by decide +kernel] at k3
  have e1 := zo_add (x := B) (y := ans) (z := B + ans) rfl rfl rfl (by omega)
  have e2 := zo_add (x := B) (y := z) (z := B + z) rfl rfl rfl (by omega)
  refine ⟨Int32.not_le.mpr (Int32.lt_iff_toInt_lt.mpr (by omega)), Int32.le_iff_toInt_le.mpr (by rw [zi_0]; omega), Int32.le_iff_toInt_le.mpr (by omega)⟩
theorem zj14 {i j : Int32} (h0 : 0 ≤ i) (h1 : j < i + 1) (h2 : i ≤ 14) : j ≤ 14 := by grind
theorem zad0 {B z j : Int32} (hB : 0 ≤ B ∧ B ≤ 14336) (h : 0 ≤ z ∧ z ≤ j) (hj : j ≤ 14) : 0 ≤ B + z := by grind
theorem zadn {B u v : Int32} (e : B + u = B + v) (h : u < v) : False := by
  have e : u = v := by grind
  rw [e] at h
  exact Int32.lt_irrefl h
set_option maxHeartbeats 4000000 in
theorem zKeep {c pr ans many b bp cN N5 : Int32} {n1 n5 : Nat} {P al E : Nat → Int32} {rer : Nat → Int64} {x : Int32 × Int32 × Int32 × (Nat → Int32) × (Nat → Int32)} (hN : 0 ≤ cN ∧ cN ≤ 14) (ha : ans = zAn al cN.toNatClampNeg) (h1 : many < Int32.ofNat n1) (hB : 0 ≤ many * ans ∧ many * ans ≤ 14336) (e5 : N5 = Int32.ofNat n5) (h5 : many * ans + ans ≤ N5) (h : fn_X1_keep c pr ans many b bp n1 P cN al n5 E rer = some x) : x.1 = many + 1 ∧ ((b = (-1) ∨ pr < bp) ∧ x.2.1 = c ∧ x.2.2.1 = pr ∨ (¬ b = (-1) ∧ bp ≤ pr) ∧ x.2.1 = b ∧ x.2.2.1 = bp) ∧ x.2.2.2.1 = upd P many.toNatClampNeg pr ∧ (∀ i : Int32, 0 ≤ i → i < cN → ¬ al i.toNatClampNeg = (-1) → x.2.2.2.2 (many * ans + zAn al i.toNatClampNeg).toNatClampNeg = (rer i.toNatClampNeg).toInt32) ∧ (∀ j : Int32, 0 ≤ j → j < many * ans → x.2.2.2.2 j.toNatClampNeg = E j.toNatClampNeg) := by
  unfold fn_X1_keep at h
  rw [if_pos h1, ← e5] at h
  obtain ⟨-, h⟩ := zg_s h
  generalize many * ans = B at hB h5 h ⊢
  have hA := zct_b32 (b := fun k => decide (¬ al k = (-1))) hN.1 hN.2
  rw [show zct (fun k => decide (¬ al k = (-1))) cN.toNatClampNeg = ans from ha.symm] at hA
  have ans14 : 0 ≤ ans ∧ ans ≤ 14 := ⟨hA.1, by have := hA.2; grind⟩
  refine zl_ip (P := fun x : Int32 × Int32 × Int32 × (Nat → Int32) × (Nat → Int32) => x.1 = many + 1 ∧ ((b = (-1) ∨ pr < bp) ∧ x.2.1 = c ∧ x.2.2.1 = pr ∨ (¬ b = (-1) ∧ bp ≤ pr) ∧ x.2.1 = b ∧ x.2.2.1 = bp) ∧ x.2.2.2.1 = upd P many.toNatClampNeg pr ∧ (∀ i : Int32, 0 ≤ i → i < cN → ¬ al i.toNatClampNeg = (-1) → x.2.2.2.2 (B + zAn al i.toNatClampNeg).toNatClampNeg = (rer i.toNatClampNeg).toInt32) ∧ (∀ j : Int32, 0 ≤ j → j < B → x.2.2.2.2 j.toNatClampNeg = E j.toNatClampNeg)) (fun s => 0 ≤ s.2.1 ∧ s.2.1 ≤ cN ∧ s.1 = B + zAn al s.2.1.toNatClampNeg ∧ (∀ i : Int32, 0 ≤ i → i < s.2.1 → ¬ al i.toNatClampNeg = (-1) → s.2.2 (B + zAn al i.toNatClampNeg).toNatClampNeg = (rer i.toNatClampNeg).toInt32) ∧ (∀ j : Int32, 0 ≤ j → j < B → s.2.2 j.toNatClampNeg = E j.toNatClampNeg)) ?_ _ _ _ ?_ h
  · intro s back o ⟨H1, H2, H3, H4, H5⟩ hb ho
    obtain ⟨a, i, row⟩ := s
    dsimp only at H1 H2 H3 H4 H5 ho
    by_cases d : cN ≤ i
    · rw [if_pos d] at ho
      have ei : i = cN := Int32.le_antisymm H2 d
      rw [ei] at H4
      simp only [zj] at ho
      by_cases q : b = (-1)
      · rw [if_pos q] at ho
        rw [← Option.some.inj ho]
        exact ⟨rfl, Or.inl ⟨Or.inl q, rfl, rfl⟩, rfl, H4, H5⟩
      · rw [if_neg q] at ho
        by_cases w : bp ≤ pr
        · rw [if_pos w] at ho
          rw [← Option.some.inj ho]
          exact ⟨rfl, Or.inr ⟨⟨q, w⟩, rfl, rfl⟩, rfl, H4, H5⟩
        · rw [if_neg w] at ho
          rw [← Option.some.inj ho]
          exact ⟨rfl, Or.inl ⟨Or.inr (Int32.not_le.mp w), rfl, rfl⟩, rfl, H4, H5⟩
    · rw [if_neg d] at ho
      have hi : 0 ≤ i ∧ i < cN := ⟨H1, Int32.not_le.mp d⟩
      have i14 : 0 ≤ i ∧ i < 100000 := ⟨H1, zi15 hi.2 hN.2⟩
      have i1 : 0 ≤ i + 1 ∧ i + 1 ≤ cN ∧ i ≤ 14 ∧ i ≤ 1200 := zi14b H1 hi.2 hN.2
      rw [zIsAns hN.2 hi, zb_some] at ho
      by_cases q : al i.toNatClampNeg = (-1)
      · rw [if_pos q, if_pos rfl] at ho
        refine hb _ _ ?_ ho
        refine ⟨i1.1, i1.2.1, ?_, fun j j0 j1 j2 => ?_, H5⟩
        · show a = B + zAn al (i + 1).toNatClampNeg
          rw [H3]
          congr 1
          exact (zct_f (b := fun k => decide (¬ al k = (-1))) H1 i1.2.2.2 (fun z => (of_decide_eq_true z) q)).symm
        · have j1 : j < i + 1 := j1
          rcases zlt1 i14 j1 with z | z
          · rw [z] at j2; exact absurd q j2
          · exact H4 j j0 z j2
      · rw [if_neg q, if_neg (show ¬ (1 : Int32) = 0 by decide)] at ho
        have bi := zct_b32 (b := fun k => decide (¬ al k = (-1))) H1 i1.2.2.1
        have li := zct_lt (b := fun k => decide (¬ al k = (-1))) H1 hi.2 hN.2 (decide_eq_true q)
        rw [show zct (fun k => decide (¬ al k = (-1))) cN.toNatClampNeg = ans from ha.symm] at li
        have ea : zAn al i.toNatClampNeg = zct (fun k => decide (¬ al k = (-1))) i.toNatClampNeg := rfl
        have an : ¬ N5 ≤ a ∧ 0 ≤ a ∧ B ≤ a := by
          rw [H3, ea]
          exact zan1 hB ans14.2 h5 bi.1 li
        rw [if_neg an.1] at ho
        obtain ⟨-, ho⟩ := zg_s ho
        obtain ⟨-, ho⟩ := zg_s ho
        simp only [zn] at ho
        refine hb _ _ ?_ ho
        refine ⟨i1.1, i1.2.1, ?_, fun j j0 j1 j2 => ?_, fun j j0 j1 => ?_⟩
        · show a + 1 = B + zAn al (i + 1).toNatClampNeg
          rw [show zAn al (i + 1).toNatClampNeg = zAn al i.toNatClampNeg + 1 from zct_t (b := fun k => decide (¬ al k = (-1))) H1 i1.2.2.2 (decide_eq_true q), H3, Int32.add_assoc]
        · have j1 : j < i + 1 := j1
          have bj := zct_b32 (b := fun k => decide (¬ al k = (-1))) j0 (zj14 H1 j1 i1.2.2.1)
          have j0' : 0 ≤ B + zAn al j.toNatClampNeg := by
            rw [show zAn al j.toNatClampNeg = zct (fun k => decide (¬ al k = (-1))) j.toNatClampNeg from rfl]
            exact zad0 hB bj (zj14 H1 j1 i1.2.2.1)
          show upd row a.toNatClampNeg (rer i.toNatClampNeg).toInt32 (B + zAn al j.toNatClampNeg).toNatClampNeg = (rer j.toNatClampNeg).toInt32
          rw [zup an.2.1 j0']
          rcases zlt1 i14 j1 with z | z
          · rw [if_pos (by rw [z, H3]), z]
          · have lj := zct_lt (b := fun k => decide (¬ al k = (-1))) j0 z i1.2.2.1 (decide_eq_true j2)
            rw [if_neg (fun w => ?_)]
            · exact H4 j j0 z j2
            · rw [H3, ea, show zAn al j.toNatClampNeg = zct (fun k => decide (¬ al k = (-1))) j.toNatClampNeg from rfl] at w
              exact zadn w lj
        · show upd row a.toNatClampNeg (rer i.toNatClampNeg).toInt32 j.toNatClampNeg = E j.toNatClampNeg
          rw [zup an.2.1 j0, if_neg (fun e => by rw [e] at j1; exact absurd j1 (Int32.not_lt.mpr an.2.2))]
          exact H5 j j0 j1
  · refine ⟨Int32.le_refl 0, hN.1, ?_, fun i i0 i1 => absurd i1 (by show ¬ i < 0; grind), fun _ _ _ => rfl⟩
    show B = B + zAn al (0 : Int32).toNatClampNeg
    rw [zn01.1]
    exact (Int32.add_zero B).symm
theorem zFS_0 {cF cc cN gc : Int32} {stp mst prc al made amt op gof gfx : Nat → Int32} {rlo rhi : Nat → Int64} {ans bp : Int32} {ok pr P E : Nat → Int32} {er : Nat → Nat → Int64} : zFS cF cc cN gc gof gfx stp mst prc al made amt op rlo rhi 0 ans ok pr er 0 (-1) bp P E := by
  refine ⟨fun c c0 c1 => absurd c1 (by show ¬ c < 0; grind), ?_, zBs_0, fun c c0 c1 => absurd c1 (by show ¬ c < 0; grind)⟩
  show (0 : Int32) = zOc ok (0 : Int32).toNatClampNeg
  rw [zn01.1]
  rfl
theorem zFS_no {cF cc cN gc : Int32} {stp mst prc al made amt op gof gfx : Nat → Int32} {rlo rhi : Nat → Int64} {k ans many b bp p : Int32} {ok pr P E : Nat → Int32} {er : Nat → Nat → Int64} {e : Nat → Int64} (hk : 0 ≤ k ∧ k ≤ 1023) (h : zFS cF cc cN gc gof gfx stp mst prc al made amt op rlo rhi k ans ok pr er many b bp P E) (t : zTry cF cc cN gc gof gfx stp mst prc al made amt op rlo rhi k 0 p e) : zFS cF cc cN gc gof gfx stp mst prc al made amt op rlo rhi (k + 1) ans (zUp ok k.toNatClampNeg 0) (zUp pr k.toNatClampNeg p) (zUp er k.toNatClampNeg e) many b bp P E := by
  have kb : 0 ≤ k ∧ k < 100000 := ⟨hk.1, by have := hk.2; clear h t; grind⟩
  have kn : k ≤ 1200 := by have := hk.2; clear h t; grind
  obtain ⟨h1, h2, h3, h4⟩ := h
  have oe : ∀ n : Nat, n < k.toNatClampNeg → zUp ok k.toNatClampNeg 0 n = ok n := fun n hn => zUp_o hn
  refine ⟨fun c c0 c1 => ?_, ?_, ?_, fun c c0 c1 c2 => ?_⟩
  · rcases zlt1 kb c1 with w | w
    · rw [w, zUp_s, zUp_s, zUp_s]; exact t
    · have l := zcl' c0 w
      rw [zUp_o l, zUp_o l, zUp_o l]; exact h1 c c0 w
  · have e1 : zOc (zUp ok k.toNatClampNeg 0) (k + 1).toNatClampNeg = zOc (zUp ok k.toNatClampNeg 0) k.toNatClampNeg := zct_f (b := fun n => decide (¬ zUp ok k.toNatClampNeg 0 n = 0)) hk.1 kn (fun z => (of_decide_eq_true z) zUp_s)
    rw [e1, zOc_c oe]; exact h2
  · exact zBs_no kb (zBs_c h3 (fun n hn => ⟨zUp_o hn, zUp_o hn⟩)) zUp_s
  · rcases zlt1 kb c1 with w | w
    · rw [w, zUp_s] at c2; exact absurd rfl c2
    · have l := zcl' c0 w
      rw [zUp_o l] at c2
      rw [zOc_c (fun n hn => oe n (Nat.lt_trans hn l)), zUp_o l, zUp_o l]
      exact h4 c c0 w c2
set_option maxHeartbeats 1000000 in
theorem zFS_yes {cF cc cN gc : Int32} {stp mst prc al made amt op gof gfx : Nat → Int32} {rlo rhi : Nat → Int64} {k ans many b bp p o : Int32} {ok pr P E : Nat → Int32} {er : Nat → Nat → Int64} {e : Nat → Int64} {x : Int32 × Int32 × Int32 × (Nat → Int32) × (Nat → Int32)} (hN : 0 ≤ cN ∧ cN ≤ 14) (hk : 0 ≤ k ∧ k ≤ 1023) (ha : ans = zAn al cN.toNatClampNeg) (h : zFS cF cc cN gc gof gfx stp mst prc al made amt op rlo rhi k ans ok pr er many b bp P E) (o0 : ¬ o = 0) (t : zTry cF cc cN gc gof gfx stp mst prc al made amt op rlo rhi k o p e) (x1 : x.1 = many + 1) (x2 : (b = (-1) ∨ p < bp) ∧ x.2.1 = k ∧ x.2.2.1 = p ∨ (¬ b = (-1) ∧ bp ≤ p) ∧ x.2.1 = b ∧ x.2.2.1 = bp) (x3 : x.2.2.2.1 = upd P many.toNatClampNeg p) (x4 : ∀ i : Int32, 0 ≤ i → i < cN → ¬ al i.toNatClampNeg = (-1) → x.2.2.2.2 (many * ans + zAn al i.toNatClampNeg).toNatClampNeg = (e i.toNatClampNeg).toInt32) (x5 : ∀ j : Int32, 0 ≤ j → j < many * ans → x.2.2.2.2 j.toNatClampNeg = E j.toNatClampNeg) : zFS cF cc cN gc gof gfx stp mst prc al made amt op rlo rhi (k + 1) ans (zUp ok k.toNatClampNeg o) (zUp pr k.toNatClampNeg p) (zUp er k.toNatClampNeg e) x.1 x.2.1 x.2.2.1 x.2.2.2.1 x.2.2.2.2 := by
  have kk : k < 100000 ∧ k ≤ 1200 ∧ k ≤ 1024 := by have := hk.2; clear h t x4 x5; grind
  have kb : 0 ≤ k ∧ k < 100000 := ⟨hk.1, kk.1⟩
  obtain ⟨h1, h2, h3, h4⟩ := h
  have oe : ∀ n : Nat, n < k.toNatClampNeg → zUp ok k.toNatClampNeg o n = ok n := fun n hn => zUp_o hn
  have em : many = zct (fun n => decide (¬ ok n = 0)) k.toNatClampNeg := h2
  have mb := zct_bI (b := fun n => decide (¬ ok n = 0)) hk.1 kk.2.2
  rw [← em] at mb
  have m1024 : many ≤ 1024 := Int32.le_trans mb.2 kk.2.2
  have a14 : ans ≤ 14 := by
    have := zct_b32 (b := fun k => decide (¬ al k = (-1))) hN.1 hN.2
    rw [ha]
    exact Int32.le_trans this.2 hN.2
  have e1 : zOc (zUp ok k.toNatClampNeg o) k.toNatClampNeg = many := by rw [zOc_c oe]; exact h2.symm
  refine ⟨fun c c0 c1 => ?_, ?_, ?_, fun c c0 c1 c2 => ?_⟩
  · rcases zlt1 kb c1 with w | w
    · rw [w, zUp_s, zUp_s, zUp_s]; exact t
    · have l := zcl' c0 w
      rw [zUp_o l, zUp_o l, zUp_o l]; exact h1 c c0 w
  · rw [x1, show zOc (zUp ok k.toNatClampNeg o) (k + 1).toNatClampNeg = zOc (zUp ok k.toNatClampNeg o) k.toNatClampNeg + 1 from zct_t (b := fun n => decide (¬ zUp ok k.toNatClampNeg o n = 0)) hk.1 kk.2.1 (decide_eq_true (by rw [zUp_s]; exact o0)), e1]
  · have hb := zBs_c (ok' := zUp ok k.toNatClampNeg o) (pr' := zUp pr k.toNatClampNeg p) h3 (fun n hn => ⟨zUp_o hn, zUp_o hn⟩)
    rcases x2 with ⟨y1, y2, y3⟩ | ⟨y1, y2, y3⟩
    · rw [y2, y3]
      have := zBs_up kb hb (by rw [zUp_s]; exact o0) (by rw [zUp_s]; exact y1)
      rw [zUp_s] at this
      exact this
    · rw [y2, y3]; exact zBs_st kb hb y1.1 (by rw [zUp_s]; exact y1.2)
  · rcases zlt1 kb c1 with w | w
    · rw [w, e1, zUp_s, zUp_s, x3]
      refine ⟨?_, fun i i0 i1 i2 => x4 i i0 i1 i2⟩
      rw [zup mb.1 mb.1, if_pos rfl]
    · have l := zcl' c0 w
      rw [zUp_o l] at c2
      rw [zOc_c (fun n hn => oe n (Nat.lt_trans hn l)), zUp_o l, zUp_o l, x3]
      obtain ⟨g1, g2⟩ := h4 c c0 w c2
      have ql := zct_lI (b := fun n => decide (¬ ok n = 0)) c0 w kk.2.2 (decide_eq_true c2)
      rw [← em] at ql
      have qb := zct_bI (b := fun n => decide (¬ ok n = 0)) c0 (Int32.le_trans (Int32.le_of_lt w) kk.2.2)
      refine ⟨?_, fun i i0 i1 i2 => ?_⟩
      · have q0 : 0 ≤ zOc ok c.toNatClampNeg := qb.1
        have q1 : zOc ok c.toNatClampNeg < many := ql
        rw [zup mb.1 q0, if_neg (fun z => by rw [z] at q1; exact absurd q1 Int32.lt_irrefl)]
        exact g1
      · have si := zct_lt (b := fun k => decide (¬ al k = (-1))) i0 i1 hN.2 (decide_eq_true i2)
        have sb := zct_b32 (b := fun k => decide (¬ al k = (-1))) i0 (Int32.le_trans (Int32.le_of_lt i1) hN.2)
        rw [show zct (fun k => decide (¬ al k = (-1))) cN.toNatClampNeg = ans from ha.symm] at si
        obtain ⟨z1, z2, -⟩ := zidx qb.1 ql m1024 a14 sb.1 si
        exact (x5 _ z1 z2).trans (g2 i i0 i1 i2)
theorem zRoom {c a : Int32} {n1 n2 n3 n4 n5 : Nat} {f1 f2 f3 f4 f5 : Nat → Int32} {x : (Nat → Int32) × Nat × (Nat → Int32) × Nat × (Nat → Int32) × Nat × (Nat → Int32) × Nat × (Nat → Int32) × Nat} (hc : 0 ≤ c) (hca : 0 ≤ c * a) (h : fn_X1_makeRoom c a n1 f1 n2 f2 n3 f3 n4 f4 n5 f5 = some x) : c ≤ Int32.ofNat x.2.1 ∧ c * a ≤ Int32.ofNat x.2.2.2.1 := by
  have e0 : c ≤ Int32.ofNat c.toNatClampNeg := by rw [zofn' _ hc]; exact Int32.le_refl _
  have e1 : c * a ≤ Int32.ofNat (c * a).toNatClampNeg := by rw [zofn' _ hca]; exact Int32.le_refl _
  unfold fn_X1_makeRoom at h
  by_cases d : c ≤ Int32.ofNat n1
  · rw [if_pos d] at h
    by_cases e : c * a ≤ Int32.ofNat n2
    · rw [if_pos e] at h
      rw [← Option.some.inj h]
      exact ⟨d, e⟩
    · rw [if_neg e] at h
      obtain ⟨-, h⟩ := za_s h
      rw [← Option.some.inj h]
      exact ⟨d, e1⟩
  · rw [if_neg d] at h
    obtain ⟨-, h⟩ := za_s h
    obtain ⟨-, h⟩ := za_s h
    obtain ⟨-, h⟩ := za_s h
    obtain ⟨-, h⟩ := za_s h
    by_cases e : c * a ≤ Int32.ofNat n2
    · rw [if_pos e] at h
      rw [← Option.some.inj h]
      exact ⟨e0, e⟩
    · rw [if_neg e] at h
      obtain ⟨-, h⟩ := za_s h
      rw [← Option.some.inj h]
      exact ⟨e0, e1⟩
noncomputable def zpw (f : Int32) : Nat → Int32
  | 0 => 1
  | n + 1 => zpw f n * f
theorem zpw_s {f g : Int32} (h0 : 0 ≤ g) (h1 : g ≤ 1200) : zpw f (g + 1).toNatClampNeg = zpw f g.toNatClampNeg * f := by
  rw [zNx h0 h1]
  rfl
noncomputable def zFA (cF cc cN gc gfr : Int32) (gof gfx stp mst prc al made amt op : Nat → Int32) (rlo rhi : Nat → Int64) (ans many b bp : Int32) (P : Nat → Int32) (nP : Nat) (E : Nat → Int32) (nE : Nat) : Prop := ∃ (q : Int32) (ok pr : Nat → Int32) (er : Nat → Nat → Int64), q = zpw cF gfr.toNatClampNeg ∧ zFS cF cc cN gc gof gfx stp mst prc al made amt op rlo rhi q ans ok pr er many b bp P E ∧ ans = zAn al cN.toNatClampNeg ∧ (0 ≤ q ∧ q ≤ 1024) ∧ q ≤ Int32.ofNat nP ∧ q * ans ≤ Int32.ofNat nE
set_option maxHeartbeats 8000000 in
theorem zSrch {cF cc cN gc gfr : Int32} {stp mst prc al made amt op gof gfx : Nat → Int32} {rlo rhi : Nat → Int64} {bp0 fa0 rs0 : Int32} {n5 n6 n7 n8 n9 : Nat} {P0 E0 f7 f8 f9 ch0 : Nat → Int32} {rr : Nat → Int64} {x : Int32 × Int32 × Int32 × Int32 × (Nat → Int32) × Nat × (Nat → Int32) × Nat × (Nat → Int32) × Nat × (Nat → Int32) × Nat × (Nat → Int32) × Nat × (Nat → Int32) × Int32 × Int32 × (Nat → Int64)} (hN : 0 ≤ cN ∧ cN ≤ 14) (hF : 0 ≤ cF ∧ cF ≤ 4) (hg : 0 ≤ gfr ∧ gfr ≤ 5) (h : fn_X1_searchAll 0 (-1) bp0 cF cc gc gfr cN al n5 P0 n6 E0 n9 f9 n7 f7 n8 f8 gfx ch0 fa0 rs0 gof stp op made rr amt rlo rhi mst prc = some x) : zFA cF cc cN gc gfr gof gfx stp mst prc al made amt op rlo rhi x.1 x.2.1 x.2.2.1 x.2.2.2.1 x.2.2.2.2.1 x.2.2.2.2.2.1 x.2.2.2.2.2.2.1 x.2.2.2.2.2.2.2.1 := by
  unfold fn_X1_searchAll at h
  refine zl_ip (P := fun x : Int32 × Int32 × Int32 × Int32 × (Nat → Int32) × Nat × (Nat → Int32) × Nat × (Nat → Int32) × Nat × (Nat → Int32) × Nat × (Nat → Int32) × Nat × (Nat → Int32) × Int32 × Int32 × (Nat → Int64) => zFA cF cc cN gc gfr gof gfx stp mst prc al made amt op rlo rhi x.1 x.2.1 x.2.2.1 x.2.2.2.1 x.2.2.2.2.1 x.2.2.2.2.2.1 x.2.2.2.2.2.2.1 x.2.2.2.2.2.2.2.1) (fun s => (0 ≤ s.2 ∧ s.2 ≤ gfr) ∧ s.1 = zpw cF s.2.toNatClampNeg ∧ zPow s.2 s.1) ?_ _ _ _ ?_ h
  rotate_left
  · exact ⟨⟨Int32.le_refl 0, hg.1⟩, by show (1 : Int32) = zpw cF (0 : Int32).toNatClampNeg; rw [zn01.1]; rfl, zPow_0⟩
  intro s back o ⟨H1, H2, H3⟩ hb ho
  obtain ⟨q, g⟩ := s
  dsimp only at H1 H2 H3 ho
  obtain ⟨j, ej, ho⟩ := zj_g ho
  have fin : g = gfr → j () = some o → zFA cF cc cN gc gfr gof gfx stp mst prc al made amt op rlo rhi o.1 o.2.1 o.2.2.1 o.2.2.2.1 o.2.2.2.2.1 o.2.2.2.2.2.1 o.2.2.2.2.2.2.1 o.2.2.2.2.2.2.2.1 := by
    intro eg hj
    have hj := zj_s ej hj
    clear ej ho hb
    obtain ⟨an, han, hj⟩ := zb_s hj
    obtain ⟨rm, hrm, hj⟩ := zb_s hj
    have ea : an = zAn al cN.toNatClampNeg := zCountA ⟨hN.1, Int32.le_refl _, hN.2⟩ han
    rw [eg] at H2
    obtain ⟨pr1, pr2, -, -⟩ := zPow_rng H3
    have ab : 0 ≤ an ∧ an ≤ 14 := by
      have := zct_b32 (b := fun k => decide (¬ al k = (-1))) hN.1 hN.2
      rw [ea]
      exact ⟨this.1, Int32.le_trans this.2 hN.2⟩
    have mq := zmul14 q an pr1 pr2 ab.1 ab.2
    have rm2 := zRoom pr1 mq.1 hrm
    refine zl_ip (P := fun x : Int32 × Int32 × Int32 × Int32 × (Nat → Int32) × Nat × (Nat → Int32) × Nat × (Nat → Int32) × Nat × (Nat → Int32) × Nat × (Nat → Int32) × Nat × (Nat → Int32) × Int32 × Int32 × (Nat → Int64) => zFA cF cc cN gc gfr gof gfx stp mst prc al made amt op rlo rhi x.1 x.2.1 x.2.2.1 x.2.2.2.1 x.2.2.2.2.1 x.2.2.2.2.2.1 x.2.2.2.2.2.2.1 x.2.2.2.2.2.2.2.1) (fun s => (0 ≤ s.1 ∧ s.1 ≤ q) ∧ ∃ (ok pr : Nat → Int32) (er : Nat → Nat → Int64), zFS cF cc cN gc gof gfx stp mst prc al made amt op rlo rhi s.1 an ok pr er s.2.1 s.2.2.1 s.2.2.2.1 s.2.2.2.2.2.2.1 s.2.2.2.2.2.2.2.1) ?_ _ _ _ ?_ hj
    rotate_left
    · exact ⟨⟨Int32.le_refl 0, pr1⟩, fun _ => 0, fun _ => 0, fun _ _ => 0, zFS_0⟩
    intro s back2 o2 ⟨K1, ok, pr, er, K2⟩ hb2 ho2
    obtain ⟨c, many, b, bp, fa, rs, P, E, ch, re⟩ := s
    dsimp only at K1 K2 ho2
    by_cases d : q ≤ c
    · rw [if_pos d] at ho2
      have ec : c = q := Int32.le_antisymm K1.2 d
      rw [ec] at K2
      rw [← Option.some.inj ho2]
      exact ⟨q, ok, pr, er, H2, K2, ea, ⟨pr1, pr2⟩, rm2.1, rm2.2⟩
    · rw [if_neg d] at ho2
      have cq : c < q := Int32.not_le.mp d
      have c1 : (0 ≤ c ∧ c ≤ 1023) ∧ c ≤ 1024 ∧ 0 ≤ c + 1 ∧ c + 1 ≤ q := by have := K1.1; clear K2 hb2 ho2; grind
      obtain ⟨row, hrow, ho2⟩ := zb_s ho2
      obtain ⟨rk, hrk, ho2⟩ := zb_s ho2
      obtain ⟨okc, fac, rsc, erc⟩ := rk
      dsimp only at ho2
      by_cases e : okc = 0
      · rw [if_pos e] at ho2
        rw [e] at hrk
        have t : zTry cF cc cN gc gof gfx stp mst prc al made amt op rlo rhi c 0 0 erc := ⟨_, _, _, _, _, hrow, hrk, fun z => absurd rfl z⟩
        refine hb2 _ _ ?_ ho2
        exact ⟨⟨c1.2.2.1, c1.2.2.2⟩, zUp ok c.toNatClampNeg 0, zUp pr c.toNatClampNeg 0, zUp er c.toNatClampNeg erc, zFS_no c1.1 K2 t⟩
      · rw [if_neg e] at ho2
        obtain ⟨price, hpr, ho2⟩ := zb_s ho2
        obtain ⟨kp, hkp, ho2⟩ := zb_s ho2
        have t : zTry cF cc cN gc gof gfx stp mst prc al made amt op rlo rhi c okc price erc := ⟨_, _, _, _, _, hrow, hrk, fun _ => hpr⟩
        have mb : 0 ≤ many ∧ many ≤ c := by rw [K2.2.1]; exact zct_bI (b := fun n => decide (¬ ok n = 0)) K1.1 c1.2.1
        have mq2 : many < q := Int32.lt_of_le_of_lt mb.2 cq
        have i0 := zidx0 mb.1 mq2 pr2 ab rm2.2
        obtain ⟨x1, x2, x3, x4, x5⟩ := zKeep hN ea (Int32.lt_of_lt_of_le mq2 rm2.1) ⟨i0.1, i0.2.1⟩ rfl i0.2.2 hkp
        refine hb2 _ _ ?_ ho2
        exact ⟨⟨c1.2.2.1, c1.2.2.2⟩, zUp ok c.toNatClampNeg okc, zUp pr c.toNatClampNeg price, zUp er c.toNatClampNeg erc, zFS_yes hN c1.1 ea K2 e t x1 x2 x3 x4 x5⟩
  by_cases c1 : gfr ≤ g
  · rw [if_pos c1] at ho
    exact fin (Int32.le_antisymm H1.2 c1) ho
  · rw [if_neg c1] at ho
    have g5 : ¬ 5 ≤ g ∧ 0 ≤ g + 1 ∧ g + 1 ≤ gfr ∧ g ≤ 1200 := by clear ej ho hb fin; grind
    rw [if_neg g5.1] at ho
    refine hb _ _ ?_ ho
    refine ⟨⟨g5.2.1, g5.2.2.1⟩, ?_, zPow_step H3 g5.1 hF.1 hF.2⟩
    show q * cF = zpw cF (g + 1).toNatClampNeg
    rw [zpw_s H1.1 g5.2.2.2, H2]
/-! the search over all CHOICES: what is kept of it, and the reference's -/
theorem zAllC {cF mFn : Int32} {mF : Nat → Int32} {x : Int32} (hF : mF 0 = cF) (hn : 0 ≤ mFn ∧ mFn ≤ 14) (h : fn_X12_allChoices mFn mF = some x) : x = zpw cF mFn.toNatClampNeg := by
  unfold fn_X12_allChoices at h
  rw [zn01.1, hF] at h
  refine zl_ip (P := fun x : Int32 => x = zpw cF mFn.toNatClampNeg) (fun s => (0 ≤ s.2 ∧ s.2 ≤ mFn) ∧ s.1 = zpw cF s.2.toNatClampNeg) ?_ _ _ _ ?_ h
  rotate_left
  · exact ⟨⟨Int32.le_refl 0, hn.1⟩, by show (1 : Int32) = zpw cF (0 : Int32).toNatClampNeg; rw [zn01.1]; rfl⟩
  intro s back o ⟨H1, H2⟩ hb ho
  obtain ⟨q, g⟩ := s
  dsimp only at H1 H2 ho
  by_cases c : mFn ≤ g
  · rw [if_pos c] at ho
    rw [← Option.some.inj ho, H2, Int32.le_antisymm H1.2 c]
  · rw [if_neg c] at ho
    have g5 : 0 ≤ g + 1 ∧ g + 1 ≤ mFn ∧ g ≤ 1200 := by clear ho hb; grind
    refine hb _ _ ?_ ho
    refine ⟨⟨g5.1, g5.2.1⟩, ?_⟩
    show q * cF = zpw cF (g + 1).toNatClampNeg
    rw [zpw_s H1.1 g5.2.2, H2]
set_option maxHeartbeats 4000000 in
theorem zCheapC {cF cc cN inp gc gfr gcl mHh mFn mFa mFw : Int32} {nF nN stp mst prc al made amt op fx jn lets gof gfx gld rwd hand mF mN mCst mNF mNN mS mM mC mW mO m1 m2 mX mG mH mTr mFr : Nat → Int32} {rlo rhi mA mB mLe mGe mEr : Nat → Int64} {mWb : Int64} {q an many b bp : Int32} {ok pr P E : Nat → Int32} {er : Nat → Nat → Int64} {x : Int32 × Int32 × Int32 × (Nat → Int32) × (Nat → Int64) × (Nat → Int64) × (Nat → Int64)} (T : zTN cF cc cN inp nF nN stp mst prc al made amt op fx jn lets mF mN mNF mNN mS mM mC mW mCst mO m1 m2 mX mG mA mB) (G : zGp cN gc gfr gcl gof gfx gld fx mG) (R : zRN cN (-1) 0 op made amt rwd rlo rhi) (H : zHN cN cF gcl mHh gof gfx hand mH) (cl : 0 < cN ∧ gcl = 0) (L : zFL cN mFn gfx mG mFr) (hn : 0 ≤ mFn ∧ mFn ≤ 14) (hq : q = zpw cF mFn.toNatClampNeg ∧ 0 ≤ q ∧ q ≤ 1024) (K : zFS cF cc cN gc gof gfx stp mst prc al made amt op rlo rhi q an ok pr er many b bp P E) (h : fn_X12_cheapestChoice mFn (-1) mWb mFa mFw mF mN mH mTr mFr mG mCst m1 m2 mC mO mLe mA mB mGe mS mEr mM mW = some x) : x.1 = b := by
  obtain ⟨K1, -, K3, -⟩ := K
  unfold fn_X12_cheapestChoice at h
  obtain ⟨a, ha, h⟩ := zb_s h
  have ea : a = q := (zAllC T.1.1 hn ha).trans hq.1.symm
  rw [ea] at h
  clear ha
  refine zl_ip (P := fun x : Int32 × Int32 × Int32 × (Nat → Int32) × (Nat → Int64) × (Nat → Int64) × (Nat → Int64) => x.1 = b) (fun s => (0 ≤ s.2.2.1 ∧ s.2.2.1 ≤ q) ∧ zBs s.2.2.1 ok pr s.1 s.2.1) ?_ _ _ _ ?_ h
  rotate_left
  · exact ⟨⟨Int32.le_refl 0, hq.2.1⟩, zBs_0⟩
  intro s back o ⟨H1, H2⟩ hb ho
  obtain ⟨be, le, c, fa, fw, l1, g1, tr, em⟩ := s
  dsimp only at H1 H2 ho
  by_cases d : q ≤ c
  · rw [if_pos d] at ho
    rw [Int32.le_antisymm H1.2 d] at H2
    rw [← Option.some.inj ho]
    exact (zBs_eq H2 K3).1
  · rw [if_neg d] at ho
    have cq : c < q := Int32.not_le.mp d
    have cb : (0 ≤ c ∧ c ≤ 1023) ∧ (0 ≤ c ∧ c < 100000) ∧ 0 ≤ c + 1 ∧ c + 1 ≤ q := by have := H1.1; have := hq.2.2; clear H2 hb ho K1 K3 T G R H L; grind
    obtain ⟨t, ht, ho⟩ := zb_s ho
    obtain ⟨w, hw, ho⟩ := zb_s ho
    have ty := K1 c H1.1 cq
    have cost := fun z => zTryCost T G H cl cb.1 L ty ht hw z
    obtain ⟨j, ej, ho⟩ := zj_g ho
    have hj : (be = (-1) ∨ w < le) → j () = some o → o.1 = b := by
      intro hbe hj
      have hj := zj_s ej hj
      obtain ⟨y, hy, hj⟩ := zb_s hj
      obtain ⟨p1, -, -⟩ := zTryPass T G R H cl cb.1 L ty ht hy
      by_cases e : y.1 = 0
      · rw [if_pos e] at hj
        refine hb _ _ ?_ hj
        exact ⟨⟨cb.2.2.1, cb.2.2.2⟩, zBs_no cb.2.1 H2 (p1.symm.trans e)⟩
      · rw [if_neg e] at hj
        have o0 : ¬ ok c.toNatClampNeg = 0 := fun z => e (p1.trans z)
        have ec := cost o0
        have up := zBs_up cb.2.1 H2 o0 (by rw [← ec]; exact hbe)
        rw [← ec] at up
        refine hb _ _ ?_ hj
        exact ⟨⟨cb.2.2.1, cb.2.2.2⟩, up⟩
    by_cases e : be = (-1)
    · rw [if_pos e] at ho
      exact hj (Or.inl e) ho
    · rw [if_neg e] at ho
      by_cases f : le ≤ w
      · rw [if_pos f] at ho
        refine hb _ _ ?_ ho
        refine ⟨⟨cb.2.2.1, cb.2.2.2⟩, ?_⟩
        show zBs (c + 1) ok pr be le
        by_cases z : ok c.toNatClampNeg = 0
        · exact zBs_no cb.2.1 H2 z
        · exact zBs_st cb.2.1 H2 e (by rw [← cost z]; exact f)
      · rw [if_neg f] at ho
        exact hj (Or.inr (Int32.not_le.mp f)) ho
/-- what is kept of the search, while the TASK stays -/
noncomputable def zFC (cF cc cN gc gfr gcl : Int32) (gof gfx stp mst prc al made amt op : Nat → Int32) (rlo rhi : Nat → Int64) (rd an many b bp : Int32) (P : Nat → Int32) (nP : Nat) (E : Nat → Int32) (nE : Nat) : Prop := rd = 0 ∨ (0 < cN → gfr ≤ 5 → (¬ gcl = 0 ∧ many = 0 ∧ b = (-1)) ∨ (gcl = 0 ∧ zFA cF cc cN gc gfr gof gfx stp mst prc al made amt op rlo rhi an many b bp P nP E nE))
theorem zGfr {cF cc cN inp gc gfr gcl : Int32} {nF nN stp mst prc al made amt op fx jn lets gof gfx gld mF mN mCst mNF mNN mS mM mC mW mO m1 m2 mX mG : Nat → Int32} {mA mB : Nat → Int64} (T : zTN cF cc cN inp nF nN stp mst prc al made amt op fx jn lets mF mN mNF mNN mS mM mC mW mCst mO m1 m2 mX mG mA mB) (G : zGp cN gc gfr gcl gof gfx gld fx mG) : (0 ≤ gfr ∧ gfr ≤ 14) ∧ zFk gfx mG cN.toNatClampNeg = gfr := by
  have hN := T.2.1
  have l14 := z14' hN.2.1 hN.2.2
  have e : zFk gfx mG cN.toNatClampNeg = gfr := by rw [G.2, G.1.1]; exact (zFreeC gfx mG cN.toNatClampNeg l14).symm
  have b := zct_b32 (b := fun k => decide (mG k = Int32.ofNat k ∧ gfx (zRk mG k).toNatClampNeg = (-1))) hN.2.1 hN.2.2
  rw [show zct (fun k => decide (mG k = Int32.ofNat k ∧ gfx (zRk mG k).toNatClampNeg = (-1))) cN.toNatClampNeg = gfr from e] at b
  exact ⟨⟨b.1, Int32.le_trans b.2 hN.2.2⟩, e⟩
set_option maxHeartbeats 4000000 in
theorem zSea {cF cc cN inp gc gfr gcl uRd uAn uMn uBs uBp uFa uRs : Int32} {nF nN stp mst prc al made amt op fx jn lets gof gfx gld mF mN mCst mNF mNN mS mM mC mW mO m1 m2 mX mG uP uE uFp uFe uFm uCh : Nat → Int32} {rlo rhi mA mB uRe : Nat → Int64} {nQP nQE nQ3 nQ4 nQ5 : Nat} {x : Int32 × Int32 × Int32 × Int32 × Int32 × Int32 × (Nat → Int32) × Nat × (Nat → Int32) × Nat × (Nat → Int32) × Nat × (Nat → Int32) × Nat × (Nat → Int32) × Nat × (Nat → Int32) × Int32 × Int32 × (Nat → Int64)} (T : zTN cF cc cN inp nF nN stp mst prc al made amt op fx jn lets mF mN mNF mNN mS mM mC mW mCst mO m1 m2 mX mG mA mB) (G : zGp cN gc gfr gcl gof gfx gld fx mG) (F : zFC cF cc cN gc gfr gcl gof gfx stp mst prc al made amt op rlo rhi uRd uAn uMn uBs uBp uP nQP uE nQE) (h : fn_X1_search uRd uAn uMn uBs uBp cF cc cN gc gfr gcl al nQP uP nQE uE nQ4 uFe nQ3 uFp nQ5 uFm gfx uCh uFa uRs gof stp op made uRe amt rlo rhi mst prc = some x) : zFC cF cc cN gc gfr gcl gof gfx stp mst prc al made amt op rlo rhi x.2.1 x.2.2.1 x.2.2.2.1 x.2.2.2.2.1 x.2.2.2.2.2.1 x.2.2.2.2.2.2.1 x.2.2.2.2.2.2.2.1 x.2.2.2.2.2.2.2.2.1 x.2.2.2.2.2.2.2.2.2.1 ∧ (x.1 = 0 ∧ ¬ (0 < cN ∧ gfr ≤ 5) ∨ x.1 = 1 ∧ (0 < cN ∧ gfr ≤ 5) ∧ (¬ gcl = 0 ∧ x.2.2.2.1 = 0 ∧ x.2.2.2.2.1 = (-1) ∨ gcl = 0 ∧ zFA cF cc cN gc gfr gof gfx stp mst prc al made amt op rlo rhi x.2.2.1 x.2.2.2.1 x.2.2.2.2.1 x.2.2.2.2.2.1 x.2.2.2.2.2.2.1 x.2.2.2.2.2.2.2.1 x.2.2.2.2.2.2.2.2.1 x.2.2.2.2.2.2.2.2.2.1)) := by
  have hN := T.2.1
  have hF := T.1
  have gf := zGfr T G
  unfold fn_X1_search at h
  by_cases c0 : cN = 0
  · rw [if_pos c0] at h
    rw [← Option.some.inj h]
    exact ⟨F, Or.inl ⟨rfl, fun q => by rw [c0] at q; exact absurd q.1 (by decide)⟩⟩
  · rw [if_neg c0] at h
    have cp : 0 < cN := by have := hN.2.1; clear h F T G; grind
    by_cases c5 : gfr ≤ 5
    · rw [if_pos c5] at h
      by_cases r : uRd = 0
      · rw [if_pos r, zHasC hN.2.1, zb_some] at h
        by_cases g0 : gcl = 0
        · rw [if_neg (by rw [zif1]; exact fun q => q ⟨cp, g0⟩)] at h
          obtain ⟨y, hy, h⟩ := zb_s h
          have fa := zSrch hN.2 hF.2 ⟨gf.1.1, c5⟩ hy
          rw [← Option.some.inj h]
          exact ⟨Or.inr (fun _ _ => Or.inr ⟨g0, fa⟩), Or.inr ⟨rfl, ⟨cp, c5⟩, Or.inr ⟨g0, fa⟩⟩⟩
        · rw [if_pos (by rw [zif1]; exact fun q => g0 q.2)] at h
          rw [← Option.some.inj h]
          exact ⟨Or.inr (fun _ _ => Or.inl ⟨g0, rfl, rfl⟩), Or.inr ⟨rfl, ⟨cp, c5⟩, Or.inl ⟨g0, rfl, rfl⟩⟩⟩
      · rw [if_neg r] at h
        have K := (F.resolve_left r) cp c5
        rw [← Option.some.inj h]
        exact ⟨F, Or.inr ⟨rfl, ⟨cp, c5⟩, K⟩⟩
    · rw [if_neg c5] at h
      rw [← Option.some.inj h]
      exact ⟨F, Or.inl ⟨rfl, fun q => c5 q.2⟩⟩
theorem zCanS {cF cc cN inp gc gfr gcl mHh : Int32} {nF nN stp mst prc al made amt op fx jn lets gof gfx gld hand mF mN mCst mNF mNN mS mM mC mW mO m1 m2 mX mG mH mFr : Nat → Int32} {mA mB : Nat → Int64} {x : Int32 × Int32 × Int32 × (Nat → Int32)} (T : zTN cF cc cN inp nF nN stp mst prc al made amt op fx jn lets mF mN mNF mNN mS mM mC mW mCst mO m1 m2 mX mG mA mB) (G : zGp cN gc gfr gcl gof gfx gld fx mG) (H : zHN cN cF gcl mHh gof gfx hand mH) (h : fn_X12_canSearch mHh mN mG mX mFr = some x) : (x.1 = 0 ∧ ¬ ((0 < cN ∧ gfr ≤ 5) ∧ gcl = 0) ∨ x.1 = 1 ∧ (0 < cN ∧ gfr ≤ 5) ∧ gcl = 0) ∧ x.2.2.1 = (-1) ∧ zFL cN x.2.1 gfx mG x.2.2.2 ∧ x.2.1 = gfr := by
  have hN := T.2.1
  have gf := zGfr T G
  unfold fn_X12_canSearch at h
  obtain ⟨f, hf, h⟩ := zb_s h
  have lf := zLaysFree T G hf
  have ef : f.1 = gfr := lf.1.trans gf.2
  rw [zn01.1, hN.1] at h
  by_cases c : cN ≤ 0
  · rw [if_pos c] at h
    rw [← Option.some.inj h]
    exact ⟨Or.inl ⟨rfl, fun q => absurd q.1.1 (Int32.not_lt.mpr c)⟩, rfl, lf, ef⟩
  · rw [if_neg c] at h
    have cp : 0 < cN := Int32.not_le.mp c
    by_cases d : mHh = 0
    · rw [if_pos d] at h
      rw [← Option.some.inj h]
      refine ⟨Or.inl ⟨rfl, fun q => ?_⟩, rfl, lf, ef⟩
      rcases H.1 cp with ⟨a1, _⟩ | ⟨_, a2⟩
      · rw [a1] at d; exact absurd d (by decide)
      · exact a2 q.2
    · rw [if_neg d] at h
      have g0 : gcl = 0 := by
        rcases H.1 cp with ⟨_, a2⟩ | ⟨a1, _⟩
        · exact a2
        · exact absurd a1 d
      rw [ef] at h
      by_cases e : 5 < gfr
      · rw [if_pos e] at h
        rw [← Option.some.inj h]
        exact ⟨Or.inl ⟨rfl, fun q => absurd q.1.2 (Int32.not_le.mpr e)⟩, rfl, by rw [← ef]; exact lf, rfl⟩
      · rw [if_neg e] at h
        rw [← Option.some.inj h]
        exact ⟨Or.inr ⟨rfl, ⟨cp, Int32.not_lt.mp e⟩, g0⟩, rfl, by rw [← ef]; exact lf, rfl⟩
set_option maxHeartbeats 4000000 in
theorem zeq_cheapest {cF cc cN inp gc gfr gcl mHh mFa mFw uRd uAn uMn uBs uBp uFa uRs : Int32} {nF nN stp mst prc al made amt op fx jn lets gof gfx gld rwd hand mF mN mCst mNF mNN mS mM mC mW mO m1 m2 mX mG mH mTr mFr uP uE uFp uFe uFm uCh oth : Nat → Int32} {rlo rhi mA mB mLe mGe mEr uRe : Nat → Int64} {mWb : Int64} {nQP nQE nQ3 nQ4 nQ5 : Nat} {p1 : Int32} {x : Int32 × Int32 × Int32 × Int32 × Int32 × Int32 × (Nat → Int32) × Nat × (Nat → Int32) × Nat × (Nat → Int32) × Nat × (Nat → Int32) × Nat × (Nat → Int32) × Nat × (Nat → Int32) × Int32 × Int32 × (Nat → Int64) × (Nat → Int32)} {y : Int32 × Int32 × Int32 × Int32 × Int32 × (Nat → Int32) × (Nat → Int32) × (Nat → Int64) × (Nat → Int64) × (Nat → Int64)} (T : zTN cF cc cN inp nF nN stp mst prc al made amt op fx jn lets mF mN mNF mNN mS mM mC mW mCst mO m1 m2 mX mG mA mB) (G : zGp cN gc gfr gcl gof gfx gld fx mG) (R : zRN cN (-1) 0 op made amt rwd rlo rhi) (H : zHN cN cF gcl mHh gof gfx hand mH) (F : zFC cF cc cN gc gfr gcl gof gfx stp mst prc al made amt op rlo rhi uRd uAn uMn uBs uBp uP nQP uE nQE) (h1 : fn_X11_cheapest p1 uRd uAn uMn uBs uBp cF cc cN gc gfr gcl al nQP uP nQE uE nQ4 uFe nQ3 uFp nQ5 uFm gfx uCh uFa uRs gof stp op made uRe amt rlo rhi mst prc oth = some x) (h2 : fn_X12_cheapest p1 mWb mHh mFa mFw mN mG mX mFr mF mH mTr mCst m1 m2 mC mO mLe mA mB mGe mS mEr mM mW = some y) : x.1 = y.1 := by
  have hN := T.2.1
  unfold fn_X11_cheapest at h1
  unfold fn_X12_cheapest at h2
  obtain ⟨a, ha, h1⟩ := zb_s h1
  obtain ⟨e, he, h2⟩ := zb_s h2
  obtain ⟨-, ra⟩ := zSea T G F ha
  obtain ⟨re, e2, e3, e4⟩ := zCanS T G H he
  -- neither there
  have no : (a.1 = 0 ∨ a.2.2.2.2.1 = (-1)) → x.1 = (-1) := by
    intro q
    by_cases z : a.1 = 0
    · rw [if_pos z] at h1
      rw [← Option.some.inj h1]
    · rw [if_neg z, if_pos (q.resolve_left z)] at h1
      rw [← Option.some.inj h1]
  rcases re with ⟨r1, r2⟩ | ⟨r1, r2, r3⟩
  · rw [if_pos r1] at h2
    rw [← Option.some.inj h2]
    apply no
    rcases ra with ⟨q, _⟩ | ⟨_, q2, q3⟩
    · exact Or.inl q
    · rcases q3 with ⟨_, _, w⟩ | ⟨w, _⟩
      · exact Or.inr w
      · exact absurd ⟨q2, w⟩ r2
  · rw [if_neg (by rw [r1]; decide)] at h2
    rcases ra with ⟨_, q⟩ | ⟨q1, _, q3⟩
    · exact absurd r2 q
    · rcases q3 with ⟨w, _⟩ | ⟨_, q, ok, pr, er, w1, w2, w3, w4, -, -⟩
      · exact absurd r3 w
      · obtain ⟨j, ej, h2⟩ := zj_g h2
        rw [e2] at ej
        have cl : 0 < cN ∧ gcl = 0 := ⟨r2.1, r3⟩
        have b14 : 0 ≤ e.2.1 ∧ e.2.1 ≤ 14 := by rw [e4]; exact (zGfr T G).1
        have w1' : q = zpw cF (e.2.1).toNatClampNeg := by rw [e4]; exact w1
        have go : j () = some y → (∃ c, fn_X12_cheapestChoice e.2.1 (-1) mWb mFa mFw mF mN mH mTr e.2.2.2 mG mCst m1 m2 mC mO mLe mA mB mGe mS mEr mM mW = some c ∧ (c.1 = (-1) ∧ y.1 = (-1) ∨ ¬ c.1 = (-1) ∧ ∃ t, fn_X12_triesChoice c.1 e.2.1 mN mH c.2.2.2.1 e.2.2.2 mF mG = some t ∧ (p1 = (-1) ∧ fn_X12_costTried mCst mN m1 t m2 mC = some y.1 ∨ ¬ p1 = (-1) ∧ y.1 = t p1.toNatClampNeg))) := by
          intro hj
          have hj := zj_s ej hj
          obtain ⟨c, hc, hj⟩ := zb_s hj
          refine ⟨c, hc, ?_⟩
          by_cases z : c.1 = (-1)
          · rw [if_pos z] at hj
            rw [← Option.some.inj hj]
            exact Or.inl ⟨z, rfl⟩
          · rw [if_neg z] at hj
            obtain ⟨t, ht, hj⟩ := zb_s hj
            refine Or.inr ⟨z, t, ht, ?_⟩
            by_cases v : p1 = (-1)
            · rw [if_pos v] at hj
              obtain ⟨k, hk, hj⟩ := zb_s hj
              rw [← Option.some.inj hj]
              exact Or.inl ⟨v, hk⟩
            · rw [if_neg v] at hj
              obtain ⟨-, hj⟩ := zg_s hj
              rw [← Option.some.inj hj]
              exact Or.inr ⟨v, rfl⟩
        have done : (p1 = (-1) ∨ (0 ≤ p1 ∧ p1 < cN)) → j () = some y → x.1 = y.1 := by
          intro hp hj
          obtain ⟨c, hc, hy⟩ := go hj
          have ec := zCheapC T G R H cl e3 b14 ⟨w1', w4.1, w4.2⟩ w2 hc
          rcases hy with ⟨y1, y2⟩ | ⟨y1, t, ht, hy⟩
          · rw [y2]
            exact no (Or.inr (ec.symm.trans y1))
          · have nb : ¬ a.2.2.2.2.1 = (-1) := fun z => y1 (ec.trans z)
            rw [if_neg (by rw [q1]; decide), if_neg nb] at h1
            rw [ec] at ht
            have bs := w2.2.2.1
            rcases bs with ⟨b1, _⟩ | ⟨b1, b2, b3, _⟩
            · exact absurd b1 nb
            · have bq : 0 ≤ a.2.2.2.2.1 ∧ a.2.2.2.2.1 ≤ 1023 := ⟨b1.1, by have := b1.2; have := w4.2; clear h1 h2 ej go no ht hc w2 T G R H F e3 ha he; grind⟩
              rcases hy with ⟨v, hk⟩ | ⟨v, hk⟩
              · rw [if_pos v] at h1
                rw [← Option.some.inj h1]
                have := zTryCost T G H cl bq e3 (w2.1 _ b1.1 b1.2) ht hk b2
                rw [this]
                exact b3
              · rw [if_neg v] at h1
                have hi := hp.resolve_left v
                obtain ⟨row, hrow, h1⟩ := zb_s h1
                have C := zUnf T G H cl bq e3.1 e3.2 hrow ht
                rw [zHasN, zb_some, if_neg (by rw [zif1]; exact fun q => q hi), zFmtOf hN.2.2 C hi, zb_some] at h1
                rw [← Option.some.inj h1]
                exact hk.symm
        by_cases v : p1 = (-1)
        · rw [if_pos v] at h2
          exact done (Or.inl v) h2
        · rw [if_neg v, zIsNum (by rw [hN.1]; exact hN.2.1), zb_some, hN.1] at h2
          by_cases hi : 0 ≤ p1 ∧ p1 < cN
          · rw [if_neg (by rw [zif1]; exact fun q => q hi)] at h2
            exact done (Or.inr hi) h2
          · rw [if_pos (by rw [zif1]; exact hi)] at h2
            rw [← Option.some.inj h2]
            by_cases nb : a.2.2.2.2.1 = (-1)
            · exact no (Or.inr nb)
            · rw [if_neg (by rw [q1]; decide), if_neg nb, if_neg v] at h1
              obtain ⟨row, hrow, h1⟩ := zb_s h1
              rw [zHasN, zb_some, if_pos (by rw [zif1]; exact hi)] at h1
              rw [← Option.some.inj h1]
set_option maxHeartbeats 4000000 in
theorem zeq_passing {cF cc cN inp gc gfr gcl mHh mWn mFa mFw uRd uAn uMn uBs uBp uFa uRs : Int32} {nF nN stp mst prc al made amt op fx jn lets gof gfx gld rwd hand mF mN mCst mNF mNN mS mM mC mW mO m1 m2 mX mG mH mTr mFr uP uE uFp uFe uFm uCh : Nat → Int32} {rlo rhi mA mB mLe mGe mEr uRe : Nat → Int64} {mWb : Int64} {nQP nQE nQ3 nQ4 nQ5 : Nat} {x : Int32 × Int32 × Int32 × Int32 × Int32 × Int32 × (Nat → Int32) × Nat × (Nat → Int32) × Nat × (Nat → Int32) × Nat × (Nat → Int32) × Nat × (Nat → Int32) × Nat × (Nat → Int32) × Int32 × Int32 × (Nat → Int64)} {y : Int32 × Int32 × Int32 × Int32 × Int32 × (Nat → Int32) × (Nat → Int32) × (Nat → Int64) × (Nat → Int64) × (Nat → Int64)} (T : zTN cF cc cN inp nF nN stp mst prc al made amt op fx jn lets mF mN mNF mNN mS mM mC mW mCst mO m1 m2 mX mG mA mB) (G : zGp cN gc gfr gcl gof gfx gld fx mG) (R : zRN cN (-1) 0 op made amt rwd rlo rhi) (H : zHN cN cF gcl mHh gof gfx hand mH) (F : zFC cF cc cN gc gfr gcl gof gfx stp mst prc al made amt op rlo rhi uRd uAn uMn uBs uBp uP nQP uE nQE) (h1 : fn_X11_passing uRd uAn uMn uBs uBp cF cc cN gc gfr gcl al nQP uP nQE uE nQ4 uFe nQ3 uFp nQ5 uFm gfx uCh uFa uRs gof stp op made uRe amt rlo rhi mst prc = some x) (h2 : fn_X12_passing mWn mWb mHh mFa mFw mN mG mX mFr mF mH mTr mO m1 m2 mLe mA mB mGe mS mEr mM mW = some y) : x.1 = y.1 := by
  have hN := T.2.1
  have gf := zGfr T G
  unfold fn_X11_passing at h1
  unfold fn_X12_passing at h2
  obtain ⟨a, ha, h1⟩ := zb_s h1
  obtain ⟨f, hf, h2⟩ := zb_s h2
  have lf := zLaysFree T G hf
  have ef : f.1 = gfr := lf.1.trans gf.2
  obtain ⟨-, ra⟩ := zSea T G F ha
  rw [zn01.1, hN.1] at h2
  by_cases c0 : cN = 0
  · rw [if_pos c0] at h2
    rcases ra with ⟨q, _⟩ | ⟨_, q, _⟩
    · rw [if_pos q] at h1
      rw [← Option.some.inj h1, ← Option.some.inj h2]
    · rw [c0] at q; exact absurd q.1 (by decide)
  · rw [if_neg c0] at h2
    have cp : 0 < cN := by have := hN.2.1; clear h1 h2 ha hf T G R H F lf ra; grind
    by_cases c5 : gfr ≤ 5
    · rw [if_pos (by rw [ef]; exact c5)] at h2
      rcases ra with ⟨_, q⟩ | ⟨q1, _, q3⟩
      · exact absurd ⟨cp, c5⟩ q
      · rw [if_neg (by rw [q1]; decide)] at h1
        rw [← Option.some.inj h1]
        show a.2.2.2.1 = y.1
        rcases q3 with ⟨w, w2, _⟩ | ⟨g0, q, ok, pr, er, w1, w2, w3, w4, -, -⟩
        · rcases H.1 cp with ⟨_, a2⟩ | ⟨a1, _⟩
          · exact absurd a2 w
          · rw [if_pos a1] at h2
            rw [← Option.some.inj h2]
            exact w2
        · have hh : ¬ mHh = 0 := by
            rcases H.1 cp with ⟨a1, _⟩ | ⟨_, a2⟩
            · rw [a1]; decide
            · exact absurd g0 a2
          rw [if_neg hh] at h2
          obtain ⟨A, hA, h2⟩ := zb_s h2
          have cl : 0 < cN ∧ gcl = 0 := ⟨cp, g0⟩
          have eA : A = q := by
            rw [zAllC T.1.1 (by rw [ef]; exact gf.1) hA, ef]
            exact w1.symm
          rw [eA] at h2
          rw [w2.2.1]
          refine zl_ip (P := fun y : Int32 × Int32 × Int32 × Int32 × Int32 × (Nat → Int32) × (Nat → Int32) × (Nat → Int64) × (Nat → Int64) × (Nat → Int64) => zOc ok q.toNatClampNeg = y.1) (fun s => (0 ≤ s.2.1 ∧ s.2.1 ≤ q) ∧ s.1 = zOc ok s.2.1.toNatClampNeg) ?_ _ _ _ ?_ h2
          rotate_left
          · exact ⟨⟨Int32.le_refl 0, w4.1⟩, by show (0 : Int32) = zOc ok (0 : Int32).toNatClampNeg; rw [zn01.1]; rfl⟩
          intro s back o ⟨H1, H2⟩ hb ho
          obtain ⟨n, c, fa, fw, l1, g1, tr, em⟩ := s
          dsimp only at H1 H2 ho
          by_cases d : q ≤ c
          · rw [if_pos d] at ho
            rw [← Option.some.inj ho]
            show zOc ok q.toNatClampNeg = n
            rw [H2, Int32.le_antisymm H1.2 d]
          · rw [if_neg d] at ho
            have cq : c < q := Int32.not_le.mp d
            have cb : (0 ≤ c ∧ c ≤ 1023) ∧ c ≤ 1200 ∧ 0 ≤ c + 1 ∧ c + 1 ≤ q := by have := H1.1; have := w4.2; clear H2 hb ho w2 T G R H F h1 ha hf hA lf; grind
            obtain ⟨t, ht, ho⟩ := zb_s ho
            obtain ⟨v, hv, ho⟩ := zb_s ho
            obtain ⟨p1, -, -⟩ := zTryPass T G R H cl cb.1 lf (w2.1 c H1.1 cq) ht hv
            by_cases e : v.1 = 0
            · rw [if_pos e] at ho
              refine hb _ _ ?_ ho
              refine ⟨⟨cb.2.2.1, cb.2.2.2⟩, ?_⟩
              show n + 0 = zOc ok (c + 1).toNatClampNeg
              rw [Int32.add_zero, H2]
              exact (zct_f (b := fun n => decide (¬ ok n = 0)) H1.1 cb.2.1 (fun z => (of_decide_eq_true z) (p1.symm.trans e))).symm
            · rw [if_neg e] at ho
              refine hb _ _ ?_ ho
              refine ⟨⟨cb.2.2.1, cb.2.2.2⟩, ?_⟩
              show n + 1 = zOc ok (c + 1).toNatClampNeg
              rw [H2]
              exact (zct_t (b := fun n => decide (¬ ok n = 0)) H1.1 cb.2.1 (decide_eq_true (fun z => e (p1.trans z)))).symm
    · rw [if_neg (by rw [ef]; exact c5)] at h2
      rcases ra with ⟨q, _⟩ | ⟨_, q, _⟩
      · rw [if_pos q] at h1
        rw [← Option.some.inj h1, ← Option.some.inj h2]
      · exact absurd q.2 c5
/-! the least ERROR within a COST; what is kept of the search stays so -/
theorem z3264 {x : Int64} (h : 0 ≤ x.toInt ∧ x.toInt ≤ 1000000000) : x.toInt32.toInt64 = x := by
  apply Int64.toInt_inj.mp
  rw [Int32.toInt_toInt64, Int64.toInt_toInt32, Int.bmod_def]
  split <;> omega
theorem zErAt {p s a q : Int32} {n : Nat} {E : Nat → Int32} (hp : 0 ≤ p ∧ p < q) (hq : q ≤ 1024) (ha : a ≤ 14) (hs : 0 ≤ s ∧ s < a) (hn : q * a ≤ Int32.ofNat n) : ∀ x : Int32, fn_X1_errorAt p s a n E = some x → x = E (p * a + s).toNatClampNeg := by
  intro x h
  obtain ⟨z1, z2, -⟩ := zidx hp.1 hp.2 hq ha hs.1 hs.2
  unfold fn_X1_errorAt at h
  rw [if_neg (show ¬ p * a + s < 0 from Int32.not_lt.mpr z1), if_neg (show ¬ Int32.ofNat n ≤ p * a + s from Int32.not_le.mpr (Int32.lt_of_lt_of_le z2 hn))] at h
  obtain ⟨-, h⟩ := zg_s h
  exact (Option.some.inj h).symm
set_option maxHeartbeats 8000000 in
theorem zeq_least {cF cc cN inp gc gfr gcl mHh mFn mWn mFa mFw uRd uAn uMn uBs uBp uFa uRs : Int32} {nF nN stp mst prc al made amt op fx jn lets gof gfx gld rwd hand mF mN mCst mNF mNN mS mM mC mW mO m1 m2 mX mG mH mTr mFr uP uE uFp uFe uFm uCh : Nat → Int32} {rlo rhi mA mB mLe mGe mEr uRe : Nat → Int64} {mWb : Int64} {nQP nQE nQ3 nQ4 nQ5 : Nat} {p1 p2 : Int32} {x : Int64 × Int32 × Int32 × Int32 × Int32 × Int32 × (Nat → Int32) × Nat × (Nat → Int32) × Nat × (Nat → Int32) × Nat × (Nat → Int32) × Nat × (Nat → Int32) × Nat × (Nat → Int32) × Int32 × Int32 × (Nat → Int64)} {y : Int64 × Int32 × Int32 × Int32 × Int32 × (Nat → Int32) × (Nat → Int32) × (Nat → Int64) × (Nat → Int64) × (Nat → Int64)} (T : zTN cF cc cN inp nF nN stp mst prc al made amt op fx jn lets mF mN mNF mNN mS mM mC mW mCst mO m1 m2 mX mG mA mB) (G : zGp cN gc gfr gcl gof gfx gld fx mG) (R : zRN cN (-1) 0 op made amt rwd rlo rhi) (H : zHN cN cF gcl mHh gof gfx hand mH) (F : zFC cF cc cN gc gfr gcl gof gfx stp mst prc al made amt op rlo rhi uRd uAn uMn uBs uBp uP nQP uE nQE) (h1 : fn_X11_least p1 p2 cF cc cN al uRd uAn uMn uBs uBp gc gfr gcl nQP uP nQE uE nQ4 uFe nQ3 uFp nQ5 uFm gfx uCh uFa uRs gof stp op made uRe amt rlo rhi mst prc = some x) (h2 : fn_X12_least p1 p2 mFn mWn mWb mHh mFa mFw mN mW mG mX mFr mF mH mTr mCst m1 m2 mC mO mLe mA mB mGe mS mEr mM = some y) : x.1 = y.1 := by
  have hN := T.2.1
  have gf := zGfr T G
  unfold fn_X11_least at h1
  unfold fn_X12_least at h2
  rw [zIsAnsJ hN.2.2, zb_some] at h1
  obtain ⟨i, hi, h2⟩ := zb_s h2
  rw [zIsAnsM T hi] at h2
  by_cases ca : (0 ≤ p1 ∧ p1 < cN) ∧ ¬ al p1.toNatClampNeg = (-1)
  · rw [if_neg (by rw [zif1]; exact fun q => q ca)] at h1 h2
    obtain ⟨a, ha, h1⟩ := zb_s h1
    obtain ⟨e, he, h2⟩ := zb_s h2
    obtain ⟨-, ra⟩ := zSea T G F ha
    obtain ⟨re, e2, e3, e4⟩ := zCanS T G H he
    rcases ra with ⟨q, q2⟩ | ⟨q1, q2, q3⟩
    · rw [if_pos q] at h1
      rcases re with ⟨r1, _⟩ | ⟨_, r2, _⟩
      · rw [if_pos r1] at h2
        rw [← Option.some.inj h1, ← Option.some.inj h2]
      · exact absurd r2 q2
    · rw [if_neg (by rw [q1]; decide)] at h1
      obtain ⟨lw, hl, h1⟩ := zb_s h1
      rw [← Option.some.inj h1]
      show lw = y.1
      clear h1
      unfold fn_X1_leastWithin at hl
      obtain ⟨sl, hs, hl⟩ := zb_s hl
      rcases q3 with ⟨w, w2, _⟩ | ⟨g0, q, ok, pr, er, w1, w2, w3, w4, w5, w6⟩
      · rcases re with ⟨r1, _⟩ | ⟨_, _, r3⟩
        · rw [if_pos r1] at h2
          rw [← Option.some.inj h2]
          rw [w2] at hl
          obtain ⟨B, eB, hl⟩ := zl_g hl
          have hl := zl_s eB hl
          try dsimp only at hl
          rw [if_pos (show (0 : Int32) ≤ 0 by decide)] at hl
          exact (Option.some.inj hl).symm
        · exact absurd r3 w
      · rcases re with ⟨_, r2⟩ | ⟨r1, _, _⟩
        · exact absurd ⟨q2, g0⟩ r2
        · rw [if_neg (by rw [r1]; decide)] at h2
          obtain ⟨A, hA, h2⟩ := zb_s h2
          have cl : 0 < cN ∧ gcl = 0 := ⟨q2.1, g0⟩
          have eA : A = q := by
            rw [zAllC T.1.1 (by rw [e4]; exact gf.1) hA, e4]
            exact w1.symm
          rw [eA, e2] at h2
          have es : sl = zAn al p1.toNatClampNeg := zCountA ⟨ca.1.1, Int32.le_of_lt ca.1.2, hN.2.2⟩ hs
          have sb : 0 ≤ sl ∧ sl < a.2.2.1 := by
            rw [es, w3]
            exact ⟨(zct_b32 (b := fun k => decide (¬ al k = (-1))) ca.1.1 (Int32.le_trans (Int32.le_of_lt ca.1.2) hN.2.2)).1, zct_lt (b := fun k => decide (¬ al k = (-1))) ca.1.1 ca.1.2 hN.2.2 (decide_eq_true ca.2)⟩
          have a14 : a.2.2.1 ≤ 14 := by
            rw [w3]
            exact Int32.le_trans (zct_b32 (b := fun k => decide (¬ al k = (-1))) hN.2.1 hN.2.2).2 hN.2.2
          obtain ⟨K1, K2, -, K4⟩ := w2
          have key : y.1 = lw := by
            refine zl_ip4 (P := fun (o1 : Int64 × Int32 × Int32 × Int32 × Int32 × (Nat → Int32) × (Nat → Int32) × (Nat → Int64) × (Nat → Int64) × (Nat → Int64)) (o2 : Int64) => o1.1 = o2) (fun s t => (0 ≤ s.2.1 ∧ s.2.1 ≤ q) ∧ t.1 = s.1 ∧ t.2 = zOc ok s.2.1.toNatClampNeg) ?_ _ _ _ _ _ ?_ h2 ⟨_, hl⟩
            · intro s t k1 o1 o2 ⟨R1, R2, R3⟩ hb ho1 ho2
              obtain ⟨be, c, fa, fw, l1, g1, tr, em⟩ := s
              obtain ⟨le, p⟩ := t
              dsimp only at R1 R2 R3 ho1
              subst R2
              by_cases d : q ≤ c
              · rw [if_pos d] at ho1
                obtain ⟨m, ho2⟩ := zl_un ho2
                try dsimp only at ho2
                have ep : p = a.2.2.2.1 := by rw [R3, Int32.le_antisymm R1.2 d]; exact K2.symm
                rw [if_pos (show a.2.2.2.1 ≤ p by rw [ep]; exact Int32.le_refl _)] at ho2
                rw [← Option.some.inj ho1, ← Option.some.inj ho2]
              · rw [if_neg d] at ho1
                have cq : c < q := Int32.not_le.mp d
                have cb : (0 ≤ c ∧ c ≤ 1023) ∧ c ≤ 1200 ∧ (0 ≤ c + 1 ∧ c + 1 ≤ q) ∧ c ≤ 1024 := zN1k R1.1 cq w4.2
                obtain ⟨t, ht, ho1⟩ := zb_s ho1
                obtain ⟨w, hw, ho1⟩ := zb_s ho1
                have ty := K1 c R1.1 cq
                by_cases z : ok c.toNatClampNeg = 0
                · have nx : zOc ok c.toNatClampNeg = zOc ok (c + 1).toNatClampNeg := (zct_f (b := fun n => decide (¬ ok n = 0)) R1.1 cb.2.1 (fun v => (of_decide_eq_true v) z)).symm
                  rw [nx] at R3
                  by_cases f : p2 < w
                  · rw [if_pos f] at ho1
                    refine hb _ _ _ _ ?_ ho1 ho2
                    exact ⟨cb.2.2.1, rfl, R3⟩
                  · rw [if_neg f] at ho1
                    obtain ⟨v, hv, ho1⟩ := zb_s ho1
                    obtain ⟨p3, -, -⟩ := zTryPass T G R H cl cb.1 e3 ty ht hv
                    rw [if_pos (show v.1 = 0 from p3.trans z)] at ho1
                    refine hb _ _ _ _ ?_ ho1 ho2
                    exact ⟨cb.2.2.1, rfl, R3⟩
                · have ec := zTryCost T G H cl cb.1 e3 ty ht hw z
                  have nx : zOc ok c.toNatClampNeg + 1 = zOc ok (c + 1).toNatClampNeg := (zct_t (b := fun n => decide (¬ ok n = 0)) R1.1 cb.2.1 (decide_eq_true z)).symm
                  obtain ⟨g1, g2⟩ := K4 c R1.1 cq z
                  have pq : zOc ok c.toNatClampNeg < a.2.2.2.1 := by
                    rw [K2]
                    exact zct_lI (b := fun n => decide (¬ ok n = 0)) R1.1 cq w4.2 (decide_eq_true z)
                  have pb : 0 ≤ zOc ok c.toNatClampNeg ∧ zOc ok c.toNatClampNeg ≤ c := zct_bI (b := fun n => decide (¬ ok n = 0)) R1.1 cb.2.2.2
                  obtain ⟨m, ho2⟩ := zl_un ho2
                  try dsimp only at ho2
                  rw [if_neg (show ¬ a.2.2.2.1 ≤ p by rw [R3]; exact Int32.not_le.mpr pq)] at ho2
                  obtain ⟨-, ho2⟩ := zg_s ho2
                  rw [R3, nx, g1, ← ec] at ho2
                  by_cases f : p2 < w
                  · rw [if_pos f] at ho1 ho2
                    refine hb _ _ _ _ ?_ ho1 ⟨_, ho2⟩
                    exact ⟨cb.2.2.1, rfl, rfl⟩
                  · rw [if_neg f] at ho1 ho2
                    obtain ⟨v, hv, ho1⟩ := zb_s ho1
                    obtain ⟨p3, p4, p5⟩ := zTryPass T G R H cl cb.1 e3 ty ht hv
                    have ok1 : ok c.toNatClampNeg = 1 := p4.resolve_left z
                    obtain ⟨v1, v2, v3⟩ := p5 ok1 p1 ca.1.1 ca.1.2
                    rw [if_neg (show ¬ v.1 = 0 from fun u => z (p3.symm.trans u)), v1] at ho1
                    have ea : ∀ u : Int32, fn_X1_errorAt (zOc ok c.toNatClampNeg) sl a.2.2.1 a.2.2.2.2.2.2.2.2.2.1 a.2.2.2.2.2.2.2.2.1 = some u → u.toInt64 = er c.toNatClampNeg p1.toNatClampNeg := by
                      intro u hu
                      have := zErAt ⟨pb.1, Int32.lt_of_le_of_lt pb.2 cq⟩ w4.2 a14 sb w6 u hu
                      rw [this, es, g2 p1 ca.1.1 ca.1.2 ca.2]
                      exact z3264 ⟨v2, v3⟩
                    by_cases n : lg_cmp le (-1000000000000000) = 0
                    · rw [if_pos n] at ho1 ho2
                      obtain ⟨-, ho1⟩ := zg_s ho1
                      obtain ⟨u, hu, ho2⟩ := zb_s ho2
                      rw [ea u hu] at ho2
                      refine hb _ _ _ _ ?_ ho1 ⟨_, ho2⟩
                      exact ⟨cb.2.2.1, rfl, rfl⟩
                    · rw [if_neg n] at ho1 ho2
                      obtain ⟨-, ho1⟩ := zg_s ho1
                      rw [zLes, zb_some] at ho1
                      obtain ⟨u, hu, ho2⟩ := zb_s ho2
                      rw [ea u hu] at ho2
                      unfold zLs at ho1
                      by_cases lt : er c.toNatClampNeg p1.toNatClampNeg < le
                      · rw [if_pos lt] at ho1
                        rw [if_neg (show ¬ 0 ≤ lg_cmp (er c.toNatClampNeg p1.toNatClampNeg) le from fun k => absurd lt (Int64.not_lt.mpr ((lg_cmp_ge _ _).mp k)))] at ho2
                        obtain ⟨u2, hu2, ho2⟩ := zb_s ho2
                        rw [ea u2 hu2] at ho2
                        refine hb _ _ _ _ ?_ ho1 ⟨_, ho2⟩
                        exact ⟨cb.2.2.1, rfl, rfl⟩
                      · rw [if_neg lt] at ho1
                        rw [if_pos ((lg_cmp_ge _ _).mpr (Int64.not_lt.mp lt))] at ho2
                        refine hb _ _ _ _ ?_ ho1 ⟨_, ho2⟩
                        exact ⟨cb.2.2.1, rfl, rfl⟩
            · refine ⟨⟨Int32.le_refl 0, w4.1⟩, rfl, ?_⟩
              show (0 : Int32) = zOc ok (0 : Int32).toNatClampNeg
              rw [zn01.1]
              rfl
          exact key.symm
  · rw [if_pos (by rw [zif1]; exact ca)] at h1 h2
    rw [← Option.some.inj h1, ← Option.some.inj h2]
/-! what is kept, behind each call that may search -/
theorem zfc_cheapest {cF cc cN inp gc gfr gcl uRd uAn uMn uBs uBp uFa uRs : Int32} {nF nN stp mst prc al made amt op fx jn lets gof gfx gld mF mN mCst mNF mNN mS mM mC mW mO m1 m2 mX mG uP uE uFp uFe uFm uCh oth : Nat → Int32} {rlo rhi mA mB uRe : Nat → Int64} {nQP nQE nQ3 nQ4 nQ5 : Nat} {p1 : Int32} {x : Int32 × Int32 × Int32 × Int32 × Int32 × Int32 × (Nat → Int32) × Nat × (Nat → Int32) × Nat × (Nat → Int32) × Nat × (Nat → Int32) × Nat × (Nat → Int32) × Nat × (Nat → Int32) × Int32 × Int32 × (Nat → Int64) × (Nat → Int32)} (T : zTN cF cc cN inp nF nN stp mst prc al made amt op fx jn lets mF mN mNF mNN mS mM mC mW mCst mO m1 m2 mX mG mA mB) (G : zGp cN gc gfr gcl gof gfx gld fx mG) (F : zFC cF cc cN gc gfr gcl gof gfx stp mst prc al made amt op rlo rhi uRd uAn uMn uBs uBp uP nQP uE nQE) (h1 : fn_X11_cheapest p1 uRd uAn uMn uBs uBp cF cc cN gc gfr gcl al nQP uP nQE uE nQ4 uFe nQ3 uFp nQ5 uFm gfx uCh uFa uRs gof stp op made uRe amt rlo rhi mst prc oth = some x) : zFC cF cc cN gc gfr gcl gof gfx stp mst prc al made amt op rlo rhi x.2.1 x.2.2.1 x.2.2.2.1 x.2.2.2.2.1 x.2.2.2.2.2.1 x.2.2.2.2.2.2.1 x.2.2.2.2.2.2.2.1 x.2.2.2.2.2.2.2.2.1 x.2.2.2.2.2.2.2.2.2.1 := by
  unfold fn_X11_cheapest at h1
  obtain ⟨a, ha, h1⟩ := zb_s h1
  obtain ⟨f, -⟩ := zSea T G F ha
  by_cases z : a.1 = 0
  · rw [if_pos z] at h1; rw [← Option.some.inj h1]; exact f
  · rw [if_neg z] at h1
    by_cases w : a.2.2.2.2.1 = (-1)
    · rw [if_pos w] at h1; rw [← Option.some.inj h1]; exact f
    · rw [if_neg w] at h1
      by_cases v : p1 = (-1)
      · rw [if_pos v] at h1; rw [← Option.some.inj h1]; exact f
      · rw [if_neg v] at h1
        obtain ⟨r, -, h1⟩ := zb_s h1
        obtain ⟨n, -, h1⟩ := zb_s h1
        by_cases u : n = 0
        · rw [if_pos u] at h1; rw [← Option.some.inj h1]; exact f
        · rw [if_neg u] at h1
          obtain ⟨k, -, h1⟩ := zb_s h1
          rw [← Option.some.inj h1]; exact f
theorem zfc_passing {cF cc cN inp gc gfr gcl uRd uAn uMn uBs uBp uFa uRs : Int32} {nF nN stp mst prc al made amt op fx jn lets gof gfx gld mF mN mCst mNF mNN mS mM mC mW mO m1 m2 mX mG uP uE uFp uFe uFm uCh : Nat → Int32} {rlo rhi mA mB uRe : Nat → Int64} {nQP nQE nQ3 nQ4 nQ5 : Nat} {x : Int32 × Int32 × Int32 × Int32 × Int32 × Int32 × (Nat → Int32) × Nat × (Nat → Int32) × Nat × (Nat → Int32) × Nat × (Nat → Int32) × Nat × (Nat → Int32) × Nat × (Nat → Int32) × Int32 × Int32 × (Nat → Int64)} (T : zTN cF cc cN inp nF nN stp mst prc al made amt op fx jn lets mF mN mNF mNN mS mM mC mW mCst mO m1 m2 mX mG mA mB) (G : zGp cN gc gfr gcl gof gfx gld fx mG) (F : zFC cF cc cN gc gfr gcl gof gfx stp mst prc al made amt op rlo rhi uRd uAn uMn uBs uBp uP nQP uE nQE) (h1 : fn_X11_passing uRd uAn uMn uBs uBp cF cc cN gc gfr gcl al nQP uP nQE uE nQ4 uFe nQ3 uFp nQ5 uFm gfx uCh uFa uRs gof stp op made uRe amt rlo rhi mst prc = some x) : zFC cF cc cN gc gfr gcl gof gfx stp mst prc al made amt op rlo rhi x.2.1 x.2.2.1 x.2.2.2.1 x.2.2.2.2.1 x.2.2.2.2.2.1 x.2.2.2.2.2.2.1 x.2.2.2.2.2.2.2.1 x.2.2.2.2.2.2.2.2.1 x.2.2.2.2.2.2.2.2.2.1 := by
  unfold fn_X11_passing at h1
  obtain ⟨a, ha, h1⟩ := zb_s h1
  obtain ⟨f, -⟩ := zSea T G F ha
  by_cases z : a.1 = 0
  · rw [if_pos z] at h1; rw [← Option.some.inj h1]; exact f
  · rw [if_neg z] at h1; rw [← Option.some.inj h1]; exact f
theorem zfc_least {cF cc cN inp gc gfr gcl uRd uAn uMn uBs uBp uFa uRs : Int32} {nF nN stp mst prc al made amt op fx jn lets gof gfx gld mF mN mCst mNF mNN mS mM mC mW mO m1 m2 mX mG uP uE uFp uFe uFm uCh : Nat → Int32} {rlo rhi mA mB uRe : Nat → Int64} {nQP nQE nQ3 nQ4 nQ5 : Nat} {p1 p2 : Int32} {x : Int64 × Int32 × Int32 × Int32 × Int32 × Int32 × (Nat → Int32) × Nat × (Nat → Int32) × Nat × (Nat → Int32) × Nat × (Nat → Int32) × Nat × (Nat → Int32) × Nat × (Nat → Int32) × Int32 × Int32 × (Nat → Int64)} (T : zTN cF cc cN inp nF nN stp mst prc al made amt op fx jn lets mF mN mNF mNN mS mM mC mW mCst mO m1 m2 mX mG mA mB) (G : zGp cN gc gfr gcl gof gfx gld fx mG) (F : zFC cF cc cN gc gfr gcl gof gfx stp mst prc al made amt op rlo rhi uRd uAn uMn uBs uBp uP nQP uE nQE) (h1 : fn_X11_least p1 p2 cF cc cN al uRd uAn uMn uBs uBp gc gfr gcl nQP uP nQE uE nQ4 uFe nQ3 uFp nQ5 uFm gfx uCh uFa uRs gof stp op made uRe amt rlo rhi mst prc = some x) : zFC cF cc cN gc gfr gcl gof gfx stp mst prc al made amt op rlo rhi x.2.1 x.2.2.1 x.2.2.2.1 x.2.2.2.2.1 x.2.2.2.2.2.1 x.2.2.2.2.2.2.1 x.2.2.2.2.2.2.2.1 x.2.2.2.2.2.2.2.2.1 x.2.2.2.2.2.2.2.2.2.1 := by
  unfold fn_X11_least at h1
  obtain ⟨i, -, h1⟩ := zb_s h1
  by_cases c : i = 0
  · rw [if_pos c] at h1; rw [← Option.some.inj h1]; exact F
  · rw [if_neg c] at h1
    obtain ⟨a, ha, h1⟩ := zb_s h1
    obtain ⟨f, -⟩ := zSea T G F ha
    by_cases z : a.1 = 0
    · rw [if_pos z] at h1; rw [← Option.some.inj h1]; exact f
    · rw [if_neg z] at h1
      obtain ⟨l, -, h1⟩ := zb_s h1
      rw [← Option.some.inj h1]; exact f
set_option maxHeartbeats 4000000 in
theorem zfc_front {cF cc cN inp gc gfr gcl uRd uAn uMn uBs uBp uFo uFz uFa uRs : Int32} {nF nN stp mst prc al made amt op fx jn lets gof gfx gld mF mN mCst mNF mNN mS mM mC mW mO m1 m2 mX mG uP uE uFp uFe uFm uCh : Nat → Int32} {rlo rhi mA mB uRe : Nat → Int64} {nQP nQE nQ3 nQ4 nQ5 : Nat} {p1 p2 p3 : Int32} {x : Int64 × Int32 × Int32 × Int32 × Int32 × Int32 × Int32 × Int32 × (Nat → Int32) × Nat × (Nat → Int32) × Nat × (Nat → Int32) × Nat × (Nat → Int32) × Nat × (Nat → Int32) × Nat × (Nat → Int32) × Int32 × Int32 × (Nat → Int64)} (T : zTN cF cc cN inp nF nN stp mst prc al made amt op fx jn lets mF mN mNF mNN mS mM mC mW mCst mO m1 m2 mX mG mA mB) (G : zGp cN gc gfr gcl gof gfx gld fx mG) (F : zFC cF cc cN gc gfr gcl gof gfx stp mst prc al made amt op rlo rhi uRd uAn uMn uBs uBp uP nQP uE nQE) (h1 : fn_X11_front p1 p2 p3 cF cc cN al uRd uAn uMn uBs uBp uFo uFz gc gfr gcl nQP uP nQE uE nQ4 uFe nQ3 uFp nQ5 uFm gfx uCh uFa uRs gof stp op made uRe amt rlo rhi mst prc = some x) : zFC cF cc cN gc gfr gcl gof gfx stp mst prc al made amt op rlo rhi x.2.2.1 x.2.2.2.1 x.2.2.2.2.1 x.2.2.2.2.2.1 x.2.2.2.2.2.2.1 x.2.2.2.2.2.2.2.2.1 x.2.2.2.2.2.2.2.2.2.1 x.2.2.2.2.2.2.2.2.2.2.1 x.2.2.2.2.2.2.2.2.2.2.2.1 := by
  unfold fn_X11_front at h1
  obtain ⟨i, -, h1⟩ := zb_s h1
  by_cases c : i = 0
  · rw [if_pos c] at h1; rw [← Option.some.inj h1]; exact F
  · rw [if_neg c] at h1
    obtain ⟨a, ha, h1⟩ := zb_s h1
    obtain ⟨f, -⟩ := zSea T G F ha
    by_cases z : a.1 = 0
    · rw [if_pos z] at h1; rw [← Option.some.inj h1]; exact f
    · rw [if_neg z] at h1
      obtain ⟨d, -, h1⟩ := zb_s h1
      by_cases c1 : p2 = (-1)
      · rw [if_pos c1] at h1
        by_cases c2 : p3 = 0
        · rw [if_pos c2] at h1; rw [← Option.some.inj h1]; exact f
        · rw [if_neg c2] at h1; rw [← Option.some.inj h1]; exact f
      · rw [if_neg c1] at h1
        by_cases c2 : p2 < 0
        · rw [if_pos c2] at h1; rw [← Option.some.inj h1]; exact f
        · rw [if_neg c2] at h1
          by_cases c3 : p2 < d.1
          · rw [if_pos c3] at h1
            by_cases c4 : p3 = 0
            · rw [if_pos c4] at h1
              obtain ⟨-, h1⟩ := zg_s h1
              rw [← Option.some.inj h1]; exact f
            · rw [if_neg c4] at h1
              by_cases c5 : p3 = 1
              · rw [if_pos c5] at h1
                obtain ⟨-, h1⟩ := zg_s h1
                rw [← Option.some.inj h1]; exact f
              · rw [if_neg c5] at h1
                by_cases c6 : p3 = 2
                · rw [if_pos c6] at h1
                  obtain ⟨-, h1⟩ := zg_s h1
                  rw [← Option.some.inj h1]; exact f
                · rw [if_neg c6] at h1; rw [← Option.some.inj h1]; exact f
          · rw [if_neg c3] at h1; rw [← Option.some.inj h1]; exact f
/-! SINGLE changes -/
noncomputable def zBG (cN gc cF : Int32) (gfx mG : Nat → Int32) (bg bf sg sf : Int32) : Prop := (bg = (-1) ∧ bf = (-1) ∧ sg = (-1) ∧ sf = (-1)) ∨ ((0 ≤ bg ∧ bg < gc) ∧ gfx bg.toNatClampNeg = (-1) ∧ (0 ≤ sg ∧ sg < cN) ∧ mG sg.toNatClampNeg = sg ∧ zRk mG sg.toNatClampNeg = bg ∧ sf = bf ∧ 0 ≤ bf ∧ bf < cF)
noncomputable def zSgl (cN gc cF : Int32) (gfx mG : Nat → Int32) (x : Int32 × Int32 × Int32 × Int32 × (Nat → Int32) × Int32 × Int32 × (Nat → Int64)) (y : Int32 × Int32 × Int32 × Int32 × Int32 × Int32 × Int32 × Int32 × (Nat → Int32) × (Nat → Int32) × (Nat → Int64) × (Nat → Int64) × (Nat → Int64)) : Prop := x.1 = y.2.2.2.2.1 ∧ x.2.1 = y.2.2.2.2.2.1 ∧ zBG cN gc cF gfx mG x.2.2.1 x.2.2.2.1 y.2.2.2.2.2.2.1 y.2.2.2.2.2.2.2.1
set_option maxHeartbeats 8000000 in
theorem zLook {cF cc cN inp gc gfr gcl mHh mFa mFw vFa vRs : Int32} {nF nN stp mst prc al made amt op fx jn lets gof gfx gld rwd hand mF mN mCst mNF mNN mS mM mC mW mO m1 m2 mX mG mH mTr mFr vNr : Nat → Int32} {rlo rhi mA mB mLe mGe mEr vRe : Nat → Int64} {mWb : Int64} {x : Int32 × Int32 × Int32 × Int32 × (Nat → Int32) × Int32 × Int32 × (Nat → Int64)} {y : Int32 × Int32 × Int32 × Int32 × Int32 × Int32 × Int32 × Int32 × (Nat → Int32) × (Nat → Int32) × (Nat → Int64) × (Nat → Int64) × (Nat → Int64)} (T : zTN cF cc cN inp nF nN stp mst prc al made amt op fx jn lets mF mN mNF mNN mS mM mC mW mCst mO m1 m2 mX mG mA mB) (G : zGp cN gc gfr gcl gof gfx gld fx mG) (R : zRN cN (-1) 0 op made amt rwd rlo rhi) (H : zHN cN cF gcl mHh gof gfx hand mH) (cl : 0 < cN ∧ gcl = 0) (h1 : fn_X3_lookAround hand vNr cF cc cN made gc gof prc gfx vFa vRs stp op vRe amt rlo rhi mst al = some x) (h2 : fn_X12_laysSingle mWb mFa mFw mN mG mX mFr mH mTr mCst m1 m2 mC mF mO mLe mA mB mGe mS mEr mM mW = some y) : zSgl cN gc cF gfx mG x y := by
  have hN := T.2.1
  have gf := zGfr T G
  obtain ⟨C, -⟩ := H.2.2 cl.1 cl.2
  have cF0 : 0 < cF := T.2.2.2.2.1 cl.1
  have cF4 := T.1.2.2
  unfold fn_X3_lookAround at h1
  unfold fn_X12_laysSingle at h2
  obtain ⟨nr, hnr, h1⟩ := zb_s h1
  obtain ⟨own, hown, h1⟩ := zb_s h1
  obtain ⟨fr, hfr, h2⟩ := zb_s h2
  obtain ⟨th, hth, h2⟩ := zb_s h2
  obtain ⟨ow2, how2, h2⟩ := zb_s h2
  have lf := zLaysFree T G hfr
  have eo : own = ow2 := zPriceEq T (zCh_c C (zTrH hN hth)) hown how2
  subst eo
  have cn := zCopyC hnr
  rw [zn01.1, T.1.1] at h2
  clear hnr hth hown how2
  have gb := zRk_b (G := mG) (p := cN) hN.2.1 hN.2.2
  rw [← G.1.1] at gb
  have gc14 : gc ≤ 14 := Int32.le_trans gb.2 hN.2.2
  have ef : zFg gfx gc.toNatClampNeg = fr.1 := by rw [lf.1, gf.2]; exact G.2.symm
  refine zl_ip4 (P := fun (o1 : Int32 × Int32 × Int32 × Int32 × (Nat → Int32) × Int32 × Int32 × (Nat → Int64)) (o2 : Int32 × Int32 × Int32 × Int32 × Int32 × Int32 × Int32 × Int32 × (Nat → Int32) × (Nat → Int32) × (Nat → Int64) × (Nat → Int64) × (Nat → Int64)) => zSgl cN gc cF gfx mG o1 o2) (fun s t => (0 ≤ s.2.1 ∧ s.2.1 ≤ gc) ∧ s.1 = t.1 ∧ t.2.1 = zFg gfx s.2.1.toNatClampNeg ∧ s.2.2.1 = t.2.2.2.2.1 ∧ s.2.2.2.1 = t.2.2.2.2.2.1 ∧ zBG cN gc cF gfx mG s.2.2.2.2.1 s.2.2.2.2.2.1 t.2.2.2.2.2.2.1 t.2.2.2.2.2.2.2.1 ∧ (∀ i : Int32, 0 ≤ i → i < 14 → s.2.2.2.2.2.2.2.2.1 i.toNatClampNeg = hand i.toNatClampNeg)) ?_ _ _ _ _ _ ?_ h1 ⟨_, h2⟩
  · intro s t k1 o1 o2 ⟨R1, R2, R3, R4, R5, R6, R7⟩ hb ho1 ho2
    obtain ⟨be, g, pa, ce, bg, bf, fa, rs, nr2, re⟩ := s
    obtain ⟨be2, k, fa2, fw2, pa2, ce2, sg, sf, l2, g2, tr2, em2⟩ := t
    dsimp only at R1 R2 R3 R4 R5 R6 R7 ho1
    subst R2 R4 R5
    by_cases d : gc ≤ g
    · rw [if_pos d] at ho1
      obtain ⟨m, ho2⟩ := zl_un ho2
      try dsimp only at ho2
      have eg := Int32.le_antisymm R1.2 d
      rw [if_pos (show fr.1 ≤ k by rw [R3, eg, ef]; exact Int32.le_refl _)] at ho2
      rw [← Option.some.inj ho1, ← Option.some.inj ho2]
      exact ⟨rfl, rfl, R6⟩
    · rw [if_neg d] at ho1
      have gg : g < gc := Int32.not_le.mp d
      have gi : g < 14 ∧ (0 ≤ g + 1 ∧ g + 1 ≤ gc) ∧ g ≤ 1200 := ⟨(zN14 R1.1 gg gc14).2.1, (zN14 R1.1 gg gc14).2.2.2.2, (zN14 R1.1 gg gc14).2.2.2.1⟩
      by_cases fg : gfx g.toNatClampNeg = (-1)
      · obtain ⟨j, j0, j1, j2, j3⟩ := zLead hN.2 G R1.1 gg
        have ek : fr.2 k.toNatClampNeg = j := by
          have := lf.2 j j0 j1 j2 (by rw [j3]; exact fg)
          have e9 : zFg gfx (zRk mG j.toNatClampNeg).toNatClampNeg = zFk gfx mG j.toNatClampNeg := zFreeC gfx mG j.toNatClampNeg (z14' j0 (Int32.le_trans (Int32.le_of_lt j1) hN.2.2))
          rw [← e9, j3, ← R3] at this
          exact this
        have kl : k < fr.1 := by
          rw [R3, ← ef]
          exact zct_lt (b := fun g => decide (gfx g = (-1))) R1.1 gg gc14 (decide_eq_true fg)
        have gj : gof j.toNatClampNeg = g := by rw [G.1.2.1 j j0 j1, j2, j3]
        obtain ⟨-, hj2, -⟩ := C j j0 j1
        rw [gj] at hj2
        obtain ⟨m, ho2⟩ := zl_un ho2
        try dsimp only at ho2
        rw [if_neg (show ¬ fr.1 ≤ k from Int32.not_le.mpr kl)] at ho2
        refine zl_ip2 (P := fun (o1 : Int32 × Int32 × Int32 × Int32 × (Nat → Int32) × Int32 × Int32 × (Nat → Int64)) (o2 : Int32 × Int32 × Int32 × Int32 × Int32 × Int32 × Int32 × Int32 × (Nat → Int32) × (Nat → Int32) × (Nat → Int64) × (Nat → Int64) × (Nat → Int64)) => zSgl cN gc cF gfx mG o1 o2) (fun s t => (0 ≤ s.2.1 ∧ s.2.1 ≤ cF) ∧ s.1 = t.1 ∧ s.2.1 = t.2.1 ∧ s.2.2.1 = t.2.2.2.2.1 ∧ s.2.2.2.1 = t.2.2.2.2.2.1 ∧ zBG cN gc cF gfx mG s.2.2.2.2.1 s.2.2.2.2.2.1 t.2.2.2.2.2.2.1 t.2.2.2.2.2.2.2.1 ∧ (∀ i : Int32, 0 ≤ i → i < 14 → ¬ i = g → s.2.2.2.2.2.2.2.2.1 i.toNatClampNeg = hand i.toNatClampNeg)) ?_ _ _ _ _ _ _ ?_ ho1 ho2
        · intro s t k3 k4 o3 o4 ⟨Q1, Q2, Q3, Q4, Q5, Q6, Q7⟩ hb2 hq1 hq2
          obtain ⟨be3, f, pa3, ce3, bg3, bf3, fa3, rs3, nr3, re3⟩ := s
          obtain ⟨be4, f4, fa4, fw4, pa4, ce4, sg4, sf4, l4, g4, tr4, em4⟩ := t
          dsimp only at Q1 Q2 Q3 Q4 Q5 Q6 Q7 hq1 hq2
          subst Q2 Q3 Q4 Q5
          obtain ⟨-, hq1⟩ := zg_s hq1
          obtain ⟨jj, ejj, hq1⟩ := zj_g hq1
          rw [if_pos fg] at hq1
          by_cases e : cF ≤ f
          · rw [if_pos e] at hq1 hq2
            have hq1 := zj_s ejj hq1
            obtain ⟨-, hq1⟩ := zg_s hq1
            have hq1 := zn_s hq1 rfl
            refine hb _ _ _ _ ?_ hq1 ⟨_, hq2⟩
            refine ⟨gi.2.1, rfl, ?_, rfl, rfl, Q6, fun i i0 i1 => ?_⟩
            · show k + 1 = zFg gfx (g + 1).toNatClampNeg
              rw [R3]
              exact (zct_t (b := fun g => decide (gfx g = (-1))) R1.1 gi.2.2 (decide_eq_true fg)).symm
            · show upd nr3 g.toNatClampNeg (hand g.toNatClampNeg) i.toNatClampNeg = hand i.toNatClampNeg
              rw [zup R1.1 i0]
              by_cases w : i = g
              · rw [if_pos w, w]
              · rw [if_neg w]; exact Q7 i i0 i1 w
          · rw [if_neg e] at hq1 hq2
            have hf : f < cF := Int32.not_le.mp e
            have fi : 0 ≤ f + 1 ∧ f + 1 ≤ cF := (zN14 Q1.1 hf (Int32.le_trans cF4 (by decide))).2.2.2.2
            obtain ⟨-, hq2⟩ := zg_s hq2
            obtain ⟨-, hq2⟩ := zg_s hq2
            rw [ek, ← hj2] at hq2
            have nq : ∀ i : Int32, 0 ≤ i → i < 14 → ¬ i = g → upd nr3 g.toNatClampNeg f i.toNatClampNeg = hand i.toNatClampNeg := by
              intro i i0 i1 w
              rw [zup R1.1 i0, if_neg w]
              exact Q7 i i0 i1 w
            by_cases u : f = hand g.toNatClampNeg
            · rw [if_pos u] at hq1
              rw [if_pos u.symm] at hq2
              refine hb2 _ _ _ _ ?_ hq1 hq2
              exact ⟨fi, rfl, rfl, rfl, rfl, Q6, nq⟩
            · rw [if_neg u] at hq1
              rw [if_neg (fun z => u z.symm)] at hq2
              obtain ⟨rk, hrk, hq1⟩ := zb_s hq1
              obtain ⟨t1, ht1, hq2⟩ := zb_s hq2
              obtain ⟨t2, ht2, hq2⟩ := zb_s hq2
              obtain ⟨ps, hps, hq2⟩ := zb_s hq2
              have tr1 := zTrH hN ht1
              have tr2 := zTrG hN ht2
              have C2 : zCh cN cF gof (upd nr3 g.toNatClampNeg f) t2 := by
                refine zCh_g T G C ⟨j0, j1⟩ ⟨Q1.1, hf⟩ (fun i i0 i1 => ?_) (fun i i0 i1 => ?_)
                · rw [gj]
                  by_cases w : i = g
                  · rw [if_pos w, zup R1.1 i0, if_pos w]
                  · rw [if_neg w]; exact nq i i0 i1 w
                · rw [j2, tr2 i i0 i1, tr1 i i0 i1]
              have pe := zPassEq (wd := rwd) T (zRN_1 R) (Or.inl rfl) C2 hrk hps
              by_cases v : rk.1 = 0
              · rw [if_pos v] at hq1
                rw [if_pos (show ps.1 = 0 from pe.1.symm.trans v)] at hq2
                refine hb2 _ _ _ _ ?_ hq1 hq2
                exact ⟨fi, rfl, rfl, rfl, rfl, Q6, nq⟩
              · rw [if_neg v] at hq1
                rw [if_neg (show ¬ ps.1 = 0 from fun z => v (pe.1.trans z))] at hq2
                obtain ⟨p5, hp5, hq1⟩ := zb_s hq1
                obtain ⟨p6, hp6, hq2⟩ := zb_s hq2
                have ep : p5 = p6 := zPriceEq T C2 hp5 hp6
                subst ep
                obtain ⟨ja, eja, hq1⟩ := zj_g hq1
                obtain ⟨jb, ejb, hq2⟩ := zj_g hq2
                have fin : ∀ v : Int32, ja v = some o3 → jb v = some o4 → zSgl cN gc cF gfx mG o3 o4 := by
                  intro v w1 w2
                  have w1 := zj_s eja w1
                  have w2 := zj_s ejb w2
                  by_cases lt : p5 < be3
                  · rw [if_neg (show ¬ be3 ≤ p5 from Int32.not_le.mpr lt)] at w1
                    rw [if_pos lt] at w2
                    obtain ⟨-, w2⟩ := zg_s w2
                    refine hb2 _ _ _ _ ?_ w1 w2
                    exact ⟨fi, rfl, rfl, rfl, rfl, Or.inr ⟨⟨R1.1, gg⟩, fg, ⟨j0, j1⟩, j2, j3, rfl, Q1.1, hf⟩, nq⟩
                  · rw [if_pos (Int32.not_lt.mp lt)] at w1
                    rw [if_neg lt] at w2
                    refine hb2 _ _ _ _ ?_ w1 w2
                    exact ⟨fi, rfl, rfl, rfl, rfl, Q6, nq⟩
                by_cases lo : own ≤ p5
                · rw [if_pos lo] at hq1 hq2
                  exact fin 0 hq1 hq2
                · rw [if_neg lo] at hq1 hq2
                  exact fin 1 hq1 hq2
        · exact ⟨⟨Int32.le_refl 0, Int32.le_of_lt cF0⟩, rfl, rfl, rfl, rfl, R6, fun i i0 i1 _ => R7 i i0 i1⟩
      · obtain ⟨B, eB, ho1⟩ := zl_g ho1
        have ho1 := zl_s eB ho1
        try dsimp only at ho1
        obtain ⟨-, ho1⟩ := zg_s ho1
        obtain ⟨jj, ejj, ho1⟩ := zj_g ho1
        rw [if_neg fg] at ho1
        have ho1 := zj_s ejj ho1
        obtain ⟨-, ho1⟩ := zg_s ho1
        have ho1 := zn_s ho1 rfl
        refine hb _ _ _ _ ?_ ho1 ho2
        refine ⟨gi.2.1, rfl, ?_, rfl, rfl, R6, fun i i0 i1 => ?_⟩
        · show k = zFg gfx (g + 1).toNatClampNeg
          rw [R3]
          exact (zct_f (b := fun g => decide (gfx g = (-1))) R1.1 gi.2.2 (fun q => fg (of_decide_eq_true q))).symm
        · show upd nr2 g.toNatClampNeg (hand g.toNatClampNeg) i.toNatClampNeg = hand i.toNatClampNeg
          rw [zup R1.1 i0]
          by_cases w : i = g
          · rw [if_pos w, w]
          · rw [if_neg w]; exact R7 i i0 i1
  · refine ⟨⟨Int32.le_refl 0, gb.1⟩, rfl, ?_, rfl, rfl, Or.inl ⟨rfl, rfl, rfl, rfl⟩, fun i i0 i1 => cn i i0 i1⟩
    show (0 : Int32) = zFg gfx (0 : Int32).toNatClampNeg
    rw [zn01.1]
    rfl
set_option maxHeartbeats 4000000 in
theorem zeq_single {cF cc cN inp gc gfr gcl mHh mFn mWn mFa mFw mS1 mS2 mS3 mS4 vPa vCe vBg vBf vFa vRs : Int32} {nF nN stp mst prc al made amt op fx jn lets gof gfx gld rwd hand mF mN mCst mNF mNN mS mM mC mW mO m1 m2 mX mG mH mTr mFr vNr : Nat → Int32} {rlo rhi mA mB mLe mGe mEr vRe : Nat → Int64} {mWb : Int64} {p1 : Int32} {x : Int32 × Int32 × Int32 × Int32 × Int32 × (Nat → Int32) × Int32 × Int32 × (Nat → Int64)} {y : Int32 × Int32 × Int32 × Int32 × Int32 × Int32 × Int32 × Int32 × Int32 × (Nat → Int32) × (Nat → Int32) × (Nat → Int64) × (Nat → Int64) × (Nat → Int64)} (T : zTN cF cc cN inp nF nN stp mst prc al made amt op fx jn lets mF mN mNF mNN mS mM mC mW mCst mO m1 m2 mX mG mA mB) (G : zGp cN gc gfr gcl gof gfx gld fx mG) (R : zRN cN (-1) 0 op made amt rwd rlo rhi) (H : zHN cN cF gcl mHh gof gfx hand mH) (h1 : fn_X11_single p1 cF cc cN gc gcl vPa vCe vBg vBf hand vNr made gof prc gfx vFa vRs stp op vRe amt rlo rhi mst al gld = some x) (h2 : fn_X12_single p1 mFn mWn mWb mHh mFa mFw mS1 mS2 mS3 mS4 mN mG mX mFr mH mTr mCst m1 m2 mC mF mO mLe mA mB mGe mS mEr mM mW = some y) : x.1 = y.1 := by
  have hN := T.2.1
  unfold fn_X11_single at h1
  unfold fn_X12_single at h2
  rw [zHasC hN.2.1, zb_some] at h1
  rw [zIsTh ⟨hN.1, hN.2.1⟩ H, zb_some] at h2
  by_cases c : 0 < cN ∧ gcl = 0
  · rw [if_neg (by rw [zif1]; exact fun q => q c)] at h1 h2
    obtain ⟨a, ha, h1⟩ := zb_s h1
    have hin : p1.toInt64 ≤ (3 : Int64) ↔ p1 ≤ 3 := by rw [show (3 : Int64) = (3 : Int32).toInt64 by decide +kernel, z64_le]
    simp only [zIsIn, zb_some, z64_ge0, hin] at h2
    by_cases d : 0 ≤ p1 ∧ p1 ≤ 3
    · rw [if_neg (by rw [zif1]; exact fun q => q d)] at h2
      obtain ⟨b, hb, h2⟩ := zb_s h2
      obtain ⟨s1, s2, s3⟩ := zLook T G R H c ha hb
      by_cases e0 : p1 = 0
      · rw [if_pos e0] at h1 h2
        rw [← Option.some.inj h1, ← Option.some.inj h2]
        exact s1
      · rw [if_neg e0] at h1 h2
        by_cases e1 : p1 = 1
        · rw [if_pos e1] at h1 h2
          rw [← Option.some.inj h1, ← Option.some.inj h2]
          exact s2
        · rw [if_neg e1] at h1 h2
          by_cases e2 : p1 = 2
          · rw [if_pos e2] at h1 h2
            obtain ⟨l, hl, h1⟩ := zb_s h1
            rw [← Option.some.inj h1, ← Option.some.inj h2]
            show l = b.2.2.2.2.2.2.1
            unfold fn_X2_leaderOf at hl
            rcases s3 with ⟨q1, _, q3, _⟩ | ⟨q1, _, q3, q4, q5, _⟩
            · rw [if_pos (show a.2.2.1 < 0 by rw [q1]; decide)] at hl
              rw [q3]
              exact (Option.some.inj hl).symm
            · rw [if_neg (show ¬ a.2.2.1 < 0 from Int32.not_lt.mpr q1.1), if_neg (show ¬ gc ≤ a.2.2.1 from Int32.not_le.mpr q1.2)] at hl
              obtain ⟨-, hl⟩ := zg_s hl
              have := (G.1.2.2.1 _ q3.1 q3.2 q4).1
              rw [q5] at this
              exact (Option.some.inj hl).symm.trans this
          · rw [if_neg e2] at h1 h2
            have e3 : p1 = 3 := zIs3 d e0 e1 e2
            rw [if_pos e3] at h1
            rw [← Option.some.inj h1, ← Option.some.inj h2]
            show a.2.2.2.1 = b.2.2.2.2.2.2.2.1
            rcases s3 with ⟨_, q2, _, q4⟩ | ⟨_, _, _, _, _, q6, _⟩
            · rw [q2, q4]
            · exact q6.symm
    · rw [if_pos (by rw [zif1]; exact d)] at h2
      have ne : ¬ p1 = 0 ∧ ¬ p1 = 1 ∧ ¬ p1 = 2 ∧ ¬ p1 = 3 := by
        refine ⟨fun q => d ?_, fun q => d ?_, fun q => d ?_, fun q => d ?_⟩ <;> rw [q] <;> decide
      rw [if_neg ne.1, if_neg ne.2.1, if_neg ne.2.2.1, if_neg ne.2.2.2] at h1
      rw [← Option.some.inj h1, ← Option.some.inj h2]
  · rw [if_pos (by rw [zif1]; exact c)] at h1 h2
    rw [← Option.some.inj h1, ← Option.some.inj h2]
/-! BY HALVES: a part of the row -/
noncomputable def zUc (gfx cd : Nat → Int32) : Nat → Int32 := zct (fun g => decide (gfx g = (-1) ∧ cd g = 0))
noncomputable def zHc (hc : Nat → Int32) : Nat → Int32 := zct (fun k => decide (hc k = 0))
noncomputable def zCd (gc : Int32) (gfx cd hc : Nat → Int32) : Prop := ∀ g : Int32, 0 ≤ g → g < gc → gfx g.toNatClampNeg = (-1) → (cd g.toNatClampNeg = 0 ↔ hc (zFg gfx g.toNatClampNeg).toNatClampNeg = 0)
theorem zUcH {gc : Int32} {gfx cd hc : Nat → Int32} (hg : 0 ≤ gc ∧ gc ≤ 14) (D : zCd gc gfx cd hc) : ∀ k : Nat, k ≤ gc.toNatClampNeg → zUc gfx cd k = zHc hc (zFg gfx k).toNatClampNeg := by
  intro k
  have l14 := z14' hg.1 hg.2
  induction k with
  | zero =>
    intro _
    show (0 : Int32) = zct _ (0 : Int32).toNatClampNeg
    rw [zn01.1]
    rfl
  | succ k ih =>
    intro hk
    have h := ih (by omega)
    obtain ⟨a1, a2, a3⟩ := zof hg.1 (show k < gc.toNatClampNeg by omega)
    have hb := zct_b (fun g => decide (gfx g = (-1))) k (by omega)
    have r : 0 ≤ zFg gfx k ∧ zFg gfx k ≤ 1200 := ⟨Int32.le_iff_toInt_le.mpr (by rw [zi_0]; exact hb.1), Int32.le_iff_toInt_le.mpr (by rw [z1200]; exact Int.le_trans hb.2 (by omega))⟩
    by_cases c : gfx k = (-1)
    · have e : zFg gfx (k + 1) = zFg gfx k + 1 := by
        show zFg gfx k + (if decide (gfx k = (-1)) = true then 1 else 0) = _
        rw [if_pos (decide_eq_true c)]
      have dk := D (Int32.ofNat k) a1 a2 (by rw [a3]; exact c)
      rw [a3] at dk
      by_cases d : cd k = 0
      · show zUc gfx cd k + (if decide (gfx k = (-1) ∧ cd k = 0) = true then 1 else 0) = _
        rw [if_pos (decide_eq_true ⟨c, d⟩), e, h]
        exact (zct_t (b := fun k => decide (hc k = 0)) r.1 r.2 (decide_eq_true (dk.mp d))).symm
      · show zUc gfx cd k + (if decide (gfx k = (-1) ∧ cd k = 0) = true then 1 else 0) = _
        rw [if_neg (fun q => d (of_decide_eq_true q).2), e, h, Int32.add_zero]
        exact (zct_f (b := fun k => decide (hc k = 0)) r.1 r.2 (fun q => d (dk.mpr (of_decide_eq_true q)))).symm
    · have e : zFg gfx (k + 1) = zFg gfx k := by
        show zFg gfx k + (if decide (gfx k = (-1)) = true then 1 else 0) = _
        rw [if_neg (fun q => c (of_decide_eq_true q))]
        exact Int32.add_zero _
      show zUc gfx cd k + (if decide (gfx k = (-1) ∧ cd k = 0) = true then 1 else 0) = _
      rw [if_neg (fun q => c (of_decide_eq_true q).1), e, h, Int32.add_zero]
theorem zFindU {gc : Int32} {gfx cd un : Nat → Int32} {x : Int32 × (Nat → Int32)} (hg : 0 ≤ gc ∧ gc ≤ 14) (h : fn_X3_findUnchanged gc gfx cd un = some x) : x.1 = zUc gfx cd gc.toNatClampNeg ∧ (∀ g : Int32, 0 ≤ g → g < gc → gfx g.toNatClampNeg = (-1) → cd g.toNatClampNeg = 0 → x.2 (zUc gfx cd g.toNatClampNeg).toNatClampNeg = g) := by
  unfold fn_X3_findUnchanged at h
  refine zl_ip (P := fun x : Int32 × (Nat → Int32) => x.1 = zUc gfx cd gc.toNatClampNeg ∧ (∀ g : Int32, 0 ≤ g → g < gc → gfx g.toNatClampNeg = (-1) → cd g.toNatClampNeg = 0 → x.2 (zUc gfx cd g.toNatClampNeg).toNatClampNeg = g)) (fun s => 0 ≤ s.2.1 ∧ s.2.1 ≤ gc ∧ s.1 = zUc gfx cd s.2.1.toNatClampNeg ∧ (∀ g : Int32, 0 ≤ g → g < s.2.1 → gfx g.toNatClampNeg = (-1) → cd g.toNatClampNeg = 0 → s.2.2 (zUc gfx cd g.toNatClampNeg).toNatClampNeg = g)) ?_ _ _ _ ?_ h
  rotate_left
  · exact ⟨Int32.le_refl 0, hg.1, by show (0 : Int32) = zct _ (0 : Int32).toNatClampNeg; rw [zn01.1]; rfl, fun k k1 k2 => absurd k2 (by show ¬ k < 0; grind)⟩
  intro s back o ⟨H1, H2, H3, H4⟩ hb ho
  obtain ⟨n, k, row⟩ := s
  dsimp only at H1 H2 H3 H4 ho
  by_cases c : gc ≤ k
  · rw [if_pos c] at ho
    rw [Int32.le_antisymm H2 c] at H3 H4
    rw [← Option.some.inj ho]
    exact ⟨H3, H4⟩
  · rw [if_neg c] at ho
    obtain ⟨-, ho⟩ := zg_s ho
    have hk : k < gc := Int32.not_le.mp c
    have kb : (0 ≤ k ∧ k < 100000) ∧ k ≤ 14 ∧ k ≤ 1200 ∧ 0 ≤ k + 1 ∧ k + 1 ≤ gc := ⟨(zN14 H1 hk hg.2).1, (zN14 H1 hk hg.2).2.2⟩
    have skip : ¬ (gfx k.toNatClampNeg = (-1) ∧ cd k.toNatClampNeg = 0) → back (n, k + 1, row) = some o → (o.1 = zUc gfx cd gc.toNatClampNeg ∧ (∀ g : Int32, 0 ≤ g → g < gc → gfx g.toNatClampNeg = (-1) → cd g.toNatClampNeg = 0 → o.2 (zUc gfx cd g.toNatClampNeg).toNatClampNeg = g)) := by
      intro w hbk
      refine hb _ _ ?_ hbk
      refine ⟨kb.2.2.2.1, kb.2.2.2.2, ?_, fun j j1 j2 j3 j4 => ?_⟩
      · show n = zUc gfx cd (k + 1).toNatClampNeg
        rw [H3]
        exact (zct_f (b := fun g => decide (gfx g = (-1) ∧ cd g = 0)) H1 kb.2.2.1 (fun q => w (of_decide_eq_true q))).symm
      · rcases zlt1 kb.1 j2 with q | q
        · rw [q] at j3 j4; exact absurd ⟨j3, j4⟩ w
        · exact H4 j j1 q j3 j4
    by_cases d : gfx k.toNatClampNeg = (-1)
    · rw [if_pos d] at ho
      by_cases e : cd k.toNatClampNeg = 0
      · rw [if_pos e] at ho
        obtain ⟨-, ho⟩ := zg_s ho
        refine hb _ _ ?_ ho
        refine ⟨kb.2.2.2.1, kb.2.2.2.2, ?_, fun j j1 j2 j3 j4 => ?_⟩
        · show n + 1 = zUc gfx cd (k + 1).toNatClampNeg
          rw [H3]
          exact (zct_t (b := fun g => decide (gfx g = (-1) ∧ cd g = 0)) H1 kb.2.2.1 (decide_eq_true ⟨d, e⟩)).symm
        · have nk : 0 ≤ zUc gfx cd k.toNatClampNeg := (zct_b32 (b := fun g => decide (gfx g = (-1) ∧ cd g = 0)) H1 kb.2.1).1
          show upd row n.toNatClampNeg k (zUc gfx cd j.toNatClampNeg).toNatClampNeg = j
          rcases zlt1 kb.1 j2 with q | q
          · rw [q, H3, zup nk nk, if_pos rfl]
          · have nj : 0 ≤ zUc gfx cd j.toNatClampNeg := (zct_b32 (b := fun g => decide (gfx g = (-1) ∧ cd g = 0)) j1 (Int32.le_trans (Int32.le_of_lt q) kb.2.1)).1
            have lt : zUc gfx cd j.toNatClampNeg < zUc gfx cd k.toNatClampNeg := zct_lt (b := fun g => decide (gfx g = (-1) ∧ cd g = 0)) j1 q kb.2.1 (decide_eq_true ⟨j3, j4⟩)
            rw [H3, zup nk nj, if_neg (fun w => by rw [w] at lt; exact absurd lt Int32.lt_irrefl)]
            exact H4 j j1 q j3 j4
      · rw [if_neg e] at ho
        exact skip (fun q => e q.2) ho
    · rw [if_neg d] at ho
      exact skip (fun q => d q.1) ho
/-- the row of GROUPS that stand unchanged, in both -/
noncomputable def zUn (gc n : Int32) (gfx un wr : Nat → Int32) : Prop := (0 ≤ n ∧ n ≤ 14) ∧ (∀ i : Int32, 0 ≤ i → i < n → (0 ≤ un i.toNatClampNeg ∧ un i.toNatClampNeg < gc) ∧ gfx (un i.toNatClampNeg).toNatClampNeg = (-1) ∧ wr i.toNatClampNeg = zFg gfx (un i.toNatClampNeg).toNatClampNeg) ∧ (∀ i j : Int32, 0 ≤ i → i < j → j < n → un i.toNatClampNeg < un j.toNatClampNeg)
theorem zUn_of {gc n : Int32} {gfx cd hc un wr : Nat → Int32} (hg : 0 ≤ gc ∧ gc ≤ 14) (D : zCd gc gfx cd hc) (hn : n = zUc gfx cd gc.toNatClampNeg) (hu : ∀ g : Int32, 0 ≤ g → g < gc → gfx g.toNatClampNeg = (-1) → cd g.toNatClampNeg = 0 → un (zUc gfx cd g.toNatClampNeg).toNatClampNeg = g) (hr : ∀ k : Int32, 0 ≤ k → k < zFg gfx gc.toNatClampNeg → hc k.toNatClampNeg = 0 → wr (zHc hc k.toNatClampNeg).toNatClampNeg = k) : zUn gc n gfx un wr ∧ (∀ i : Int32, 0 ≤ i → i < n → cd (un i.toNatClampNeg).toNatClampNeg = 0) := by
  have l14 := z14' hg.1 hg.2
  have b := zct_b32 (b := fun g => decide (gfx g = (-1) ∧ cd g = 0)) hg.1 hg.2
  have nb : 0 ≤ n ∧ n ≤ 14 := by rw [hn]; exact ⟨b.1, Int32.le_trans b.2 hg.2⟩
  have key : ∀ i : Int32, 0 ≤ i → i < n → ∃ g : Int32, 0 ≤ g ∧ g < gc ∧ gfx g.toNatClampNeg = (-1) ∧ cd g.toNatClampNeg = 0 ∧ zUc gfx cd g.toNatClampNeg = i ∧ un i.toNatClampNeg = g ∧ wr i.toNatClampNeg = zFg gfx g.toNatClampNeg := by
    intro i i0 i1
    rw [hn] at i1
    obtain ⟨k, k1, k2, k3⟩ := zct_sj gc.toNatClampNeg (by omega) i i0 i1
    obtain ⟨a1, a2, a3⟩ := zof hg.1 k1
    obtain ⟨c1, c2⟩ := of_decide_eq_true k2
    have u := hu (Int32.ofNat k) a1 a2 (by rw [a3]; exact c1) (by rw [a3]; exact c2)
    have ek : zUc gfx cd k = i := k3
    rw [a3, ek] at u
    have fl : zFg gfx (Int32.ofNat k).toNatClampNeg < zFg gfx gc.toNatClampNeg := zct_lt (b := fun g => decide (gfx g = (-1))) a1 a2 hg.2 (by rw [a3]; exact decide_eq_true c1)
    have f0 : 0 ≤ zFg gfx (Int32.ofNat k).toNatClampNeg := (zct_b32 (b := fun g => decide (gfx g = (-1))) a1 (Int32.le_trans (Int32.le_of_lt a2) hg.2)).1
    have h0 := (D (Int32.ofNat k) a1 a2 (by rw [a3]; exact c1)).mp (by rw [a3]; exact c2)
    have r := hr _ f0 fl h0
    have eh := zUcH hg D k (by omega)
    rw [ek] at eh
    rw [a3, ← eh] at r
    refine ⟨Int32.ofNat k, a1, a2, by rw [a3]; exact c1, by rw [a3]; exact c2, by rw [a3]; exact ek, u, ?_⟩
    rw [a3]
    exact r
  refine ⟨⟨nb, fun i i0 i1 => ?_, fun i j i0 ij j1 => ?_⟩, fun i i0 i1 => ?_⟩
  · obtain ⟨g, g0, g1, g2, g3, g4, g5, g6⟩ := key i i0 i1
    rw [g5]
    exact ⟨⟨g0, g1⟩, g2, g6⟩
  · obtain ⟨g, g0, g1, g2, g3, g4, g5, g6⟩ := key i i0 (zltt ij j1)
    obtain ⟨h, h0, h1, h2, h3, h4, h5, h6⟩ := key j (Int32.le_trans i0 (Int32.le_of_lt ij)) j1
    rw [g5, h5]
    apply Int32.not_le.mp
    intro q
    have m : zUc gfx cd h.toNatClampNeg ≤ zUc gfx cd g.toNatClampNeg := zct_m32 (b := fun g => decide (gfx g = (-1) ∧ cd g = 0)) h0 q (Int32.le_trans (Int32.le_of_lt g1) hg.2)
    rw [g4, h4] at m
    exact absurd ij (Int32.not_lt.mpr m)
  · obtain ⟨g, g0, g1, g2, g3, g4, g5, g6⟩ := key i i0 i1
    rw [g5]
    exact g3
theorem zUn_ne {gc n : Int32} {gfx un wr : Nat → Int32} (U : zUn gc n gfx un wr) {i j : Int32} (hi : 0 ≤ i ∧ i < n) (hj : 0 ≤ j ∧ j < n) (h : ¬ i = j) : ¬ un i.toNatClampNeg = un j.toNatClampNeg := by
  intro e
  rcases (zNe h) with q | q
  · have := U.2.2 i j hi.1 q hj.2
    rw [e] at this
    exact absurd this Int32.lt_irrefl
  · have := U.2.2 j i hj.1 q hi.2
    rw [e] at this
    exact absurd this Int32.lt_irrefl
/-- a part set to a FORMAT, by GROUPS -/
theorem zSetP {a b f : Int32} {un row x : Nat → Int32} (hab : 0 ≤ a ∧ a ≤ b ∧ b ≤ 14) (hu : ∀ k : Int32, a ≤ k → k < b → 0 ≤ un k.toNatClampNeg) (h : fn_X3_setPart a b f un row = some x) : ∀ i : Int32, 0 ≤ i → (∀ k : Int32, a ≤ k → k < b → un k.toNatClampNeg = i → x i.toNatClampNeg = f) ∧ ((∀ k : Int32, a ≤ k → k < b → ¬ un k.toNatClampNeg = i) → x i.toNatClampNeg = row i.toNatClampNeg) := by
  unfold fn_X3_setPart at h
  refine zl_ip (P := fun x : Nat → Int32 => ∀ i : Int32, 0 ≤ i → (∀ k : Int32, a ≤ k → k < b → un k.toNatClampNeg = i → x i.toNatClampNeg = f) ∧ ((∀ k : Int32, a ≤ k → k < b → ¬ un k.toNatClampNeg = i) → x i.toNatClampNeg = row i.toNatClampNeg)) (fun s => (a ≤ s.1 ∧ s.1 ≤ b) ∧ ∀ i : Int32, 0 ≤ i → (∀ k : Int32, a ≤ k → k < s.1 → un k.toNatClampNeg = i → s.2 i.toNatClampNeg = f) ∧ ((∀ k : Int32, a ≤ k → k < s.1 → ¬ un k.toNatClampNeg = i) → s.2 i.toNatClampNeg = row i.toNatClampNeg)) ?_ _ _ _ ?_ h
  rotate_left
  · exact ⟨⟨Int32.le_refl a, hab.2.1⟩, fun i i0 => ⟨fun k k0 k1 => absurd k1 (Int32.not_lt.mpr k0), fun _ => rfl⟩⟩
  intro s back o ⟨H1, H2⟩ hb ho
  obtain ⟨k, r⟩ := s
  dsimp only at H1 H2 ho
  by_cases c : b ≤ k
  · rw [if_pos c] at ho
    rw [Int32.le_antisymm H1.2 c] at H2
    rw [← Option.some.inj ho]
    exact H2
  · rw [if_neg c] at ho
    obtain ⟨-, ho⟩ := zg_s ho
    obtain ⟨-, ho⟩ := zg_s ho
    have kb : k < b := Int32.not_le.mp c
    have k1 : (0 ≤ k ∧ k < 100000) ∧ a ≤ k + 1 ∧ k + 1 ≤ b := zNab (Int32.le_trans hab.1 H1.1) H1.1 kb hab.2.2
    have u0 := hu k H1.1 kb
    refine hb _ _ ?_ ho
    refine ⟨k1.2, fun i i0 => ⟨fun l l0 l1 l2 => ?_, fun w => ?_⟩⟩
    · show upd r (un k.toNatClampNeg).toNatClampNeg f i.toNatClampNeg = f
      rw [zup u0 i0]
      by_cases q : i = un k.toNatClampNeg
      · rw [if_pos q]
      · rw [if_neg q]
        rcases zlt1 k1.1 l1 with z | z
        · rw [z] at l2; exact absurd l2.symm q
        · exact (H2 i i0).1 l l0 z l2
    · show upd r (un k.toNatClampNeg).toNatClampNeg f i.toNatClampNeg = row i.toNatClampNeg
      have nk : ¬ i = un k.toNatClampNeg := fun q => w k H1.1 (zlt3 k1.1).1 q.symm
      rw [zup u0 i0, if_neg nk]
      exact (H2 i i0).2 (fun l l0 l1 => w l l0 (zlt2 k1.1 l1))
theorem zFg_ne {gc g h : Int32} {gfx : Nat → Int32} (hc : gc ≤ 14) (hg : 0 ≤ g ∧ g < gc) (hh : 0 ≤ h ∧ h < gc) (fg : gfx g.toNatClampNeg = (-1)) (fh : gfx h.toNatClampNeg = (-1)) (e : zFg gfx g.toNatClampNeg = zFg gfx h.toNatClampNeg) : g = h := by
  apply Classical.byContradiction
  intro n
  rcases (zNe n) with q | q
  · have : zFg gfx g.toNatClampNeg < zFg gfx h.toNatClampNeg := zct_lt (b := fun g => decide (gfx g = (-1))) hg.1 q (Int32.le_trans (Int32.le_of_lt hh.2) hc) (decide_eq_true fg)
    rw [e] at this
    exact absurd this Int32.lt_irrefl
  · have : zFg gfx h.toNatClampNeg < zFg gfx g.toNatClampNeg := zct_lt (b := fun g => decide (gfx g = (-1))) hh.1 q (Int32.le_trans (Int32.le_of_lt hg.2) hc) (decide_eq_true fh)
    rw [e] at this
    exact absurd this Int32.lt_irrefl
/-- what the class says of a part, what the reference does -/
noncomputable def zPt (cN cF gc a b ts : Int32) (gof gfx un cd row : Nat → Int32) (x : Int32 × Int32 × (Nat → Int32) × Int32 × Int32 × (Nat → Int64) × (Nat → Int32)) (y : Int32 × Int32 × Int32 × Int32 × Int32 × (Nat → Int32) × (Nat → Int32) × (Nat → Int64) × (Nat → Int64) × (Nat → Int64) × (Nat → Int32)) : Prop := x.1 = y.1 ∧ x.2.1 = y.2.2.2.1 ∧ y.2.2.2.2.1 = ts + 1 ∧ zCh cN cF gof x.2.2.1 y.2.2.2.2.2.1 ∧ zCd gc gfx x.2.2.2.2.2.2 y.2.2.2.2.2.2.2.2.2.2 ∧ (x.1 = 0 ∧ x.2.2.2.2.2.2 = cd ∧ (∀ i : Int32, 0 ≤ i → x.2.2.1 i.toNatClampNeg = row i.toNatClampNeg) ∨ ¬ x.1 = 0 ∧ (∀ g : Int32, 0 ≤ g → (∀ k : Int32, a ≤ k → k < b → ¬ un k.toNatClampNeg = g) → x.2.2.2.2.2.2 g.toNatClampNeg = cd g.toNatClampNeg ∧ x.2.2.1 g.toNatClampNeg = row g.toNatClampNeg) ∧ (∀ k : Int32, a ≤ k → k < b → ¬ x.2.2.2.2.2.2 (un k.toNatClampNeg).toNatClampNeg = 0))
theorem znar : ¬ vp_nar .boolean 1 = 0 ∧ vp_nar .boolean 0 = 0 := by decide +kernel
theorem zMark {ρ : Type} {a b : Int32} {un cd : Nat → Int32} {K : Int32 × (Nat → Int32) → Option ρ} {n : Nat} {o : ρ} (hab : 0 ≤ a ∧ a ≤ b ∧ b ≤ 14) (hu : ∀ k : Int32, a ≤ k → k < b → 0 ≤ un k.toNatClampNeg) (h : zl (fun (s : Int32 × (Nat → Int32)) back => if b ≤ s.1 then K s else zg s.1 14 (zg (un s.1.toNatClampNeg) 14 (zn (upd s.2 (un s.1.toNatClampNeg).toNatClampNeg (vp_nar .boolean 1)) (fun g => back (s.1 + 1, g))))) n (a, cd) = some o) : ∃ (k : Int32) (m : Nat → Int32), K (k, m) = some o ∧ ∀ i : Int32, 0 ≤ i → (∀ k : Int32, a ≤ k → k < b → un k.toNatClampNeg = i → ¬ m i.toNatClampNeg = 0) ∧ ((∀ k : Int32, a ≤ k → k < b → ¬ un k.toNatClampNeg = i) → m i.toNatClampNeg = cd i.toNatClampNeg) := by
  refine zl_ip (P := fun o : ρ => ∃ (k : Int32) (m : Nat → Int32), K (k, m) = some o ∧ ∀ i : Int32, 0 ≤ i → (∀ k : Int32, a ≤ k → k < b → un k.toNatClampNeg = i → ¬ m i.toNatClampNeg = 0) ∧ ((∀ k : Int32, a ≤ k → k < b → ¬ un k.toNatClampNeg = i) → m i.toNatClampNeg = cd i.toNatClampNeg)) (fun s => (a ≤ s.1 ∧ s.1 ≤ b) ∧ ∀ i : Int32, 0 ≤ i → (∀ k : Int32, a ≤ k → k < s.1 → un k.toNatClampNeg = i → ¬ s.2 i.toNatClampNeg = 0) ∧ ((∀ k : Int32, a ≤ k → k < s.1 → ¬ un k.toNatClampNeg = i) → s.2 i.toNatClampNeg = cd i.toNatClampNeg)) ?_ _ _ _ ?_ h
  rotate_left
  · exact ⟨⟨Int32.le_refl a, hab.2.1⟩, fun i i0 => ⟨fun k k0 k1 => absurd k1 (Int32.not_lt.mpr k0), fun _ => rfl⟩⟩
  intro s back o ⟨H1, H2⟩ hb ho
  obtain ⟨k, r⟩ := s
  dsimp only at H1 H2 ho
  by_cases c : b ≤ k
  · rw [if_pos c] at ho
    rw [Int32.le_antisymm H1.2 c] at H2
    exact ⟨k, r, ho, H2⟩
  · rw [if_neg c] at ho
    obtain ⟨-, ho⟩ := zg_s ho
    obtain ⟨-, ho⟩ := zg_s ho
    have ho := zn_s ho rfl
    have kb : k < b := Int32.not_le.mp c
    have k1 : (0 ≤ k ∧ k < 100000) ∧ a ≤ k + 1 ∧ k + 1 ≤ b := zNab (Int32.le_trans hab.1 H1.1) H1.1 kb hab.2.2
    have u0 := hu k H1.1 kb
    refine hb _ _ ?_ ho
    refine ⟨k1.2, fun i i0 => ⟨fun l l0 l1 l2 => ?_, fun w => ?_⟩⟩
    · show ¬ upd r (un k.toNatClampNeg).toNatClampNeg (vp_nar .boolean 1) i.toNatClampNeg = 0
      rw [zup u0 i0]
      by_cases q : i = un k.toNatClampNeg
      · rw [if_pos q]; exact znar.1
      · rw [if_neg q]
        rcases zlt1 k1.1 l1 with z | z
        · rw [z] at l2; exact absurd l2.symm q
        · exact (H2 i i0).1 l l0 z l2
    · show upd r (un k.toNatClampNeg).toNatClampNeg (vp_nar .boolean 1) i.toNatClampNeg = cd i.toNatClampNeg
      have nk : ¬ i = un k.toNatClampNeg := fun q => w k H1.1 (zlt3 k1.1).1 q.symm
      rw [zup u0 i0, if_neg nk]
      exact (H2 i i0).2 (fun l l0 l1 => w l l0 (zlt2 k1.1 l1))
theorem zCopyK {ρ : Type} {c : Int32} {so tr : Nat → Int32} {K : Int32 × (Nat → Int32) → Option ρ} {n : Nat} {o : ρ} (hc : 0 ≤ c ∧ c ≤ 14) (h : zl (fun (s : Int32 × (Nat → Int32)) back => if c ≤ s.1 then K s else zg s.1 14 (back (s.1 + 1, upd s.2 s.1.toNatClampNeg (so s.1.toNatClampNeg)))) n (0, tr) = some o) : ∃ (k : Int32) (m : Nat → Int32), K (k, m) = some o ∧ ∀ i : Int32, 0 ≤ i → i < c → m i.toNatClampNeg = so i.toNatClampNeg := by
  refine zl_ip (P := fun o : ρ => ∃ (k : Int32) (m : Nat → Int32), K (k, m) = some o ∧ ∀ i : Int32, 0 ≤ i → i < c → m i.toNatClampNeg = so i.toNatClampNeg) (fun s => (0 ≤ s.1 ∧ s.1 ≤ c) ∧ ∀ i : Int32, 0 ≤ i → i < s.1 → s.2 i.toNatClampNeg = so i.toNatClampNeg) ?_ _ _ _ ?_ h
  rotate_left
  · exact ⟨⟨Int32.le_refl 0, hc.1⟩, fun i i0 i1 => absurd i1 (Int32.not_lt.mpr i0)⟩
  intro s back o ⟨H1, H2⟩ hb ho
  obtain ⟨k, r⟩ := s
  dsimp only at H1 H2 ho
  by_cases d : c ≤ k
  · rw [if_pos d] at ho
    rw [Int32.le_antisymm H1.2 d] at H2
    exact ⟨k, r, ho, H2⟩
  · rw [if_neg d] at ho
    obtain ⟨-, ho⟩ := zg_s ho
    have k1 : (0 ≤ k ∧ k < 100000) ∧ 0 ≤ k + 1 ∧ k + 1 ≤ c := ⟨(zN14 H1.1 (Int32.not_le.mp d) hc.2).1, (zN14 H1.1 (Int32.not_le.mp d) hc.2).2.2.2.2⟩
    refine hb _ _ ?_ ho
    refine ⟨k1.2, fun i i0 i1 => ?_⟩
    show upd r k.toNatClampNeg (so k.toNatClampNeg) i.toNatClampNeg = so i.toNatClampNeg
    rw [zup H1.1 i0]
    rcases zlt1 k1.1 i1 with q | q
    · rw [if_pos q, q]
    · rw [if_neg (fun z => by rw [z] at q; exact absurd q Int32.lt_irrefl)]; exact H2 i i0 q
theorem zTryP {cN : Int32} {mN mG : Nat → Int32} {ρ : Type} {a b f : Int32} {fr wr t0 : Nat → Int32} {K : Int32 × (Nat → Int32) → Option ρ} {n : Nat} {o : ρ} (hN : mN 0 = cN ∧ 0 ≤ cN ∧ cN ≤ 14) (hab : 0 ≤ a ∧ a ≤ b ∧ b ≤ 14) (h : zl (fun (s : Int32 × (Nat → Int32)) back => if b ≤ s.1 then K s else zg s.1 14 (zg (wr s.1.toNatClampNeg) 14 (zb (fn_X12_triesGroup (fr (wr s.1.toNatClampNeg).toNatClampNeg) f mN mG s.2) (fun o => back (s.1 + 1, o))))) n (a, t0) = some o) : ∃ (k : Int32) (m : Nat → Int32), K (k, m) = some o ∧ ∀ i : Int32, 0 ≤ i → i < cN → (∀ k : Int32, a ≤ k → k < b → mG i.toNatClampNeg = fr (wr k.toNatClampNeg).toNatClampNeg → m i.toNatClampNeg = f) ∧ ((∀ k : Int32, a ≤ k → k < b → ¬ mG i.toNatClampNeg = fr (wr k.toNatClampNeg).toNatClampNeg) → m i.toNatClampNeg = t0 i.toNatClampNeg) := by
  refine zl_ip (P := fun o : ρ => ∃ (k : Int32) (m : Nat → Int32), K (k, m) = some o ∧ ∀ i : Int32, 0 ≤ i → i < cN → (∀ k : Int32, a ≤ k → k < b → mG i.toNatClampNeg = fr (wr k.toNatClampNeg).toNatClampNeg → m i.toNatClampNeg = f) ∧ ((∀ k : Int32, a ≤ k → k < b → ¬ mG i.toNatClampNeg = fr (wr k.toNatClampNeg).toNatClampNeg) → m i.toNatClampNeg = t0 i.toNatClampNeg)) (fun s => (a ≤ s.1 ∧ s.1 ≤ b) ∧ ∀ i : Int32, 0 ≤ i → i < cN → (∀ k : Int32, a ≤ k → k < s.1 → mG i.toNatClampNeg = fr (wr k.toNatClampNeg).toNatClampNeg → s.2 i.toNatClampNeg = f) ∧ ((∀ k : Int32, a ≤ k → k < s.1 → ¬ mG i.toNatClampNeg = fr (wr k.toNatClampNeg).toNatClampNeg) → s.2 i.toNatClampNeg = t0 i.toNatClampNeg)) ?_ _ _ _ ?_ h
  rotate_left
  · exact ⟨⟨Int32.le_refl a, hab.2.1⟩, fun i i0 i1 => ⟨fun k k0 k1 => absurd k1 (Int32.not_lt.mpr k0), fun _ => rfl⟩⟩
  intro s back o ⟨H1, H2⟩ hb ho
  obtain ⟨k, r⟩ := s
  dsimp only at H1 H2 ho
  by_cases c : b ≤ k
  · rw [if_pos c] at ho
    rw [Int32.le_antisymm H1.2 c] at H2
    exact ⟨k, r, ho, H2⟩
  · rw [if_neg c] at ho
    obtain ⟨-, ho⟩ := zg_s ho
    obtain ⟨-, ho⟩ := zg_s ho
    obtain ⟨t, ht, ho⟩ := zb_s ho
    have tg := zTrG hN ht
    have kb : k < b := Int32.not_le.mp c
    have k1 : (0 ≤ k ∧ k < 100000) ∧ a ≤ k + 1 ∧ k + 1 ≤ b := zNab (Int32.le_trans hab.1 H1.1) H1.1 kb hab.2.2
    refine hb _ _ ?_ ho
    refine ⟨k1.2, fun i i0 i1 => ⟨fun l l0 l1 l2 => ?_, fun w => ?_⟩⟩
    · show t i.toNatClampNeg = f
      rw [tg i i0 i1]
      by_cases q : mG i.toNatClampNeg = fr (wr k.toNatClampNeg).toNatClampNeg
      · rw [if_pos q]
      · rw [if_neg q]
        rcases zlt1 k1.1 l1 with z | z
        · rw [z] at l2; exact absurd l2 q
        · exact (H2 i i0 i1).1 l l0 z l2
    · show t i.toNatClampNeg = t0 i.toNatClampNeg
      rw [tg i i0 i1, if_neg (w k H1.1 (zlt3 k1.1).1)]
      exact (H2 i i0 i1).2 (fun l l0 l1 => w l l0 (zlt2 k1.1 l1))
theorem zKeepsT {cN : Int32} {mN mCst mC m1 m2 : Nat → Int32} {t so : Nat → Int32} {x : Int32 × (Nat → Int32)} (hN : mN 0 = cN ∧ 0 ≤ cN ∧ cN ≤ 14) (h : fn_X12_keepsTried mN t so mCst m1 m2 mC = some x) : fn_X12_costTried mCst mN m1 t m2 mC = some x.1 ∧ ∀ i : Int32, 0 ≤ i → i < cN → x.2 i.toNatClampNeg = t i.toNatClampNeg := by
  unfold fn_X12_keepsTried at h
  rw [zn01.1, hN.1] at h
  obtain ⟨k, m, h, hm⟩ := zCopyK hN.2 h
  try dsimp only at h
  obtain ⟨w, hw, h⟩ := zb_s h
  rw [← Option.some.inj h]
  exact ⟨hw, hm⟩
theorem zCh_r {cN cF : Int32} {gof ch ch' t : Nat → Int32} (C : zCh cN cF gof ch t) (h : ∀ i : Int32, 0 ≤ i → ch' i.toNatClampNeg = ch i.toNatClampNeg) : zCh cN cF gof ch' t := by
  intro i i0 i1
  obtain ⟨⟨a1, a2⟩, c2, c3, c4⟩ := C i i0 i1
  rw [h _ a1]
  exact ⟨⟨a1, a2⟩, c2, c3, c4⟩
/-- the least NUMBER of the k-th GROUP of the row -/
theorem zLdr {cF cc cN inp gc gfr gcl mFn : Int32} {nF nN stp mst prc al made amt op fx jn lets gof gfx gld mF mN mCst mNF mNN mS mM mC mW mO m1 m2 mX mG : Nat → Int32} {mA mB : Nat → Int64} {n k : Int32} {un wr fr : Nat → Int32} (T : zTN cF cc cN inp nF nN stp mst prc al made amt op fx jn lets mF mN mNF mNN mS mM mC mW mCst mO m1 m2 mX mG mA mB) (G : zGp cN gc gfr gcl gof gfx gld fx mG) (L : zFL cN mFn gfx mG fr) (U : zUn gc n gfx un wr) (k0 : 0 ≤ k) (k1 : k < n) : ∃ j : Int32, (0 ≤ j ∧ j < cN) ∧ mG j.toNatClampNeg = j ∧ gof j.toNatClampNeg = un k.toNatClampNeg ∧ fr (wr k.toNatClampNeg).toNatClampNeg = j := by
  have hN := T.2.1
  obtain ⟨u1, u2, u3⟩ := U.2.1 k k0 k1
  obtain ⟨j, j0, j1, j2, j3⟩ := zLead hN.2 G u1.1 u1.2
  refine ⟨j, ⟨j0, j1⟩, j2, by rw [G.1.2.1 j j0 j1, j2, j3], ?_⟩
  have l := L.2 j j0 j1 j2 (by rw [j3]; exact u2)
  have e9 : zFg gfx (zRk mG j.toNatClampNeg).toNatClampNeg = zFk gfx mG j.toNatClampNeg := zFreeC gfx mG j.toNatClampNeg (z14' j0 (Int32.le_trans (Int32.le_of_lt j1) hN.2.2))
  rw [← e9, j3, ← u3] at l
  exact l
set_option maxHeartbeats 8000000 in
theorem zPart {cF cc cN inp gc gfr gcl mFn : Int32} {nF nN stp mst prc al made amt op fx jn lets gof gfx gld rwd mF mN mCst mNF mNN mS mM mC mW mO m1 m2 mX mG mTr : Nat → Int32} {rlo rhi mA mB mLe mGe mEr : Nat → Int64} {mWb : Int64} {a b len f fin n pr ts fa0 rs0 : Int32} {un wr fr row so cd hc : Nat → Int32} {re0 : Nat → Int64} {x : Int32 × Int32 × (Nat → Int32) × Int32 × Int32 × (Nat → Int64) × (Nat → Int32)} {y : Int32 × Int32 × Int32 × Int32 × Int32 × (Nat → Int32) × (Nat → Int32) × (Nat → Int64) × (Nat → Int64) × (Nat → Int64) × (Nat → Int32)} (T : zTN cF cc cN inp nF nN stp mst prc al made amt op fx jn lets mF mN mNF mNN mS mM mC mW mCst mO m1 m2 mX mG mA mB) (G : zGp cN gc gfr gcl gof gfx gld fx mG) (R : zRN cN (-1) 0 op made amt rwd rlo rhi) (L : zFL cN mFn gfx mG fr) (U : zUn gc n gfx un wr) (hab : 0 ≤ a ∧ a ≤ b ∧ b ≤ n) (hl : a + len = b) (hf : 0 ≤ f ∧ f < cF) (C : zCh cN cF gof row so) (hfin : ∀ k : Int32, a ≤ k → k < b → row (un k.toNatClampNeg).toNatClampNeg = fin) (D : zCd gc gfx cd hc) (h1 : fn_X3_changePart a b f fin pr un row cF cc cN made gof prc fa0 rs0 stp op re0 amt rlo rhi mst al cd = some x) (h2 : fn_X12_isBetter a len f (-1) mWb pr ts mN so mTr wr fr mG mO m1 m2 mLe mA mB mGe mS mEr mM mW mCst mC hc = some y) : zPt cN cF gc a b ts gof gfx un cd row x y := by
  have hN := T.2.1
  have gb := zRk_b (G := mG) (p := cN) hN.2.1 hN.2.2
  rw [← G.1.1] at gb
  have gc14 : gc ≤ 14 := Int32.le_trans gb.2 hN.2.2
  have b14 : 0 ≤ a ∧ a ≤ b ∧ b ≤ 14 := ⟨hab.1, hab.2.1, Int32.le_trans hab.2.2 U.1.2⟩
  have kin : ∀ k : Int32, a ≤ k → k < b → 0 ≤ k ∧ k < n := fun k k0 k1 => ⟨Int32.le_trans hab.1 k0, Int32.lt_of_lt_of_le k1 hab.2.2⟩
  have hu : ∀ k : Int32, a ≤ k → k < b → 0 ≤ un k.toNatClampNeg := fun k k0 k1 => (U.2.1 k (kin k k0 k1).1 (kin k k0 k1).2).1.1
  have hr : ∀ k : Int32, a ≤ k → k < b → 0 ≤ wr k.toNatClampNeg := fun k k0 k1 => by
    obtain ⟨u1, u2, u3⟩ := U.2.1 k (kin k k0 k1).1 (kin k k0 k1).2
    rw [u3]
    exact (zct_b32 (b := fun g => decide (gfx g = (-1))) u1.1 (Int32.le_trans (Int32.le_of_lt u1.2) gc14)).1
  unfold fn_X3_changePart at h1
  unfold fn_X12_isBetter at h2
  obtain ⟨r1, hr1, h1⟩ := zb_s h1
  obtain ⟨p, hp, h1⟩ := zb_s h1
  rw [hl, zn01.1, hN.1] at h2
  obtain ⟨k9, t0, h2, ht0⟩ := zCopyK hN.2 h2
  try dsimp only at h2
  obtain ⟨k8, t, h2, ht⟩ := zTryP hN b14 h2
  try dsimp only at h2
  obtain ⟨ps, hps, h2⟩ := zb_s h2
  have S1 := zSetP b14 hu hr1
  -- the same tried
  have C1 : zCh cN cF gof r1 t := by
    intro i i0 i1
    obtain ⟨⟨a1, a2⟩, a3, a4, a5⟩ := C i i0 i1
    have same : ∀ k : Int32, a ≤ k → k < b → (un k.toNatClampNeg = gof i.toNatClampNeg ↔ mG i.toNatClampNeg = fr (wr k.toNatClampNeg).toNatClampNeg) := fun k k0 k1 => by
      obtain ⟨j, jj, j2, j3, j4⟩ := zLdr T G L U (kin k k0 k1).1 (kin k k0 k1).2
      have e := zGp_eq hN.2.2 T.2.2.2.2.2.2.2.2 G ⟨i0, i1⟩ jj
      rw [j3, j2] at e
      rw [j4, ← e]
      exact ⟨fun q => q.symm, fun q => q.symm⟩
    by_cases q : ∃ k : Int32, a ≤ k ∧ k < b ∧ un k.toNatClampNeg = gof i.toNatClampNeg
    · obtain ⟨k, k0, k1, k2⟩ := q
      rw [(S1 _ a1).1 k k0 k1 k2, (ht i i0 i1).1 k k0 k1 ((same k k0 k1).mp k2)]
      exact ⟨⟨a1, a2⟩, rfl, hf.1, hf.2⟩
    · rw [(S1 _ a1).2 (fun k k0 k1 k2 => q ⟨k, k0, k1, k2⟩), (ht i i0 i1).2 (fun k k0 k1 k2 => q ⟨k, k0, k1, (same k k0 k1).mpr k2⟩), ht0 i i0 i1]
      exact ⟨⟨a1, a2⟩, a3, a4, a5⟩
  -- back to what it was
  have bk : ∀ r2 : Nat → Int32, fn_X3_setPart a b fin un r1 = some r2 → ∀ i : Int32, 0 ≤ i → r2 i.toNatClampNeg = row i.toNatClampNeg := by
    intro r2 hr2 i i0
    have S2 := zSetP b14 hu hr2 i i0
    by_cases q : ∃ k : Int32, a ≤ k ∧ k < b ∧ un k.toNatClampNeg = i
    · obtain ⟨k, k0, k1, k2⟩ := q
      rw [S2.1 k k0 k1 k2, ← hfin k k0 k1, k2]
    · rw [S2.2 (fun k k0 k1 k2 => q ⟨k, k0, k1, k2⟩)]
      exact (S1 i i0).2 (fun k k0 k1 k2 => q ⟨k, k0, k1, k2⟩)
  -- where the reference says no
  have no : (y.1 = 0 ∧ y.2.2.2.1 = pr ∧ y.2.2.2.2.1 = ts + 1 ∧ y.2.2.2.2.2.1 = so ∧ y.2.2.2.2.2.2.2.2.2.2 = hc) → (x.1 = 0 ∧ x.2.1 = pr ∧ x.2.2.2.2.2.2 = cd ∧ ∀ i : Int32, 0 ≤ i → x.2.2.1 i.toNatClampNeg = row i.toNatClampNeg) → zPt cN cF gc a b ts gof gfx un cd row x y := by
    intro ⟨y1, y2, y3, y4, y5⟩ ⟨x1, x2, x3, x4⟩
    exact ⟨x1.trans y1.symm, x2.trans y2.symm, y3, by rw [y4]; exact zCh_r C x4, by rw [x3, y5]; exact D, Or.inl ⟨x1, x3, x4⟩⟩
  by_cases c : pr ≤ p
  · rw [if_pos c] at h1
    obtain ⟨r2, hr2, h1⟩ := zb_s h1
    refine no ?_ (by rw [← Option.some.inj h1]; exact ⟨rfl, rfl, rfl, bk r2 hr2⟩)
    by_cases z : ps.1 = 0
    · rw [if_pos z] at h2
      rw [← Option.some.inj h2]
      exact ⟨rfl, rfl, rfl, rfl, rfl⟩
    · rw [if_neg z] at h2
      obtain ⟨w, hw, h2⟩ := zb_s h2
      have ew : p = w := zPriceEq T C1 hp hw
      rw [if_neg (show ¬ w < pr by rw [← ew]; exact Int32.not_lt.mpr c)] at h2
      rw [← Option.some.inj h2]
      exact ⟨rfl, rfl, rfl, rfl, rfl⟩
  · rw [if_neg c] at h1
    obtain ⟨rk, hrk, h1⟩ := zb_s h1
    have pe := zPassEq (wd := rwd) T (zRN_1 R) (Or.inl rfl) C1 hrk hps
    by_cases z : rk.1 = 0
    · rw [if_pos z] at h1
      rw [if_pos (show ps.1 = 0 from pe.1.symm.trans z)] at h2
      obtain ⟨r2, hr2, h1⟩ := zb_s h1
      refine no ?_ (by rw [← Option.some.inj h1]; exact ⟨rfl, rfl, rfl, bk r2 hr2⟩)
      rw [← Option.some.inj h2]
      exact ⟨rfl, rfl, rfl, rfl, rfl⟩
    · rw [if_neg z] at h1
      rw [if_neg (show ¬ ps.1 = 0 from fun q => z (pe.1.trans q))] at h2
      obtain ⟨w, hw, h2⟩ := zb_s h2
      have ew : p = w := zPriceEq T C1 hp hw
      rw [if_pos (show w < pr by rw [← ew]; exact Int32.not_le.mp c)] at h2
      obtain ⟨kt, hkt, h2⟩ := zb_s h2
      obtain ⟨kt1, kt2⟩ := zKeepsT hN hkt
      obtain ⟨k7, cd', h1, hcd⟩ := zMark b14 hu h1
      obtain ⟨k6, hc', h2, hhc⟩ := zMark b14 hr h2
      try dsimp only at h1 h2
      rw [← Option.some.inj h1, ← Option.some.inj h2]
      refine ⟨rfl, ?_, rfl, ?_, ?_, Or.inr ⟨by show ¬ (1 : Int32) = 0; decide, fun g g0 q => ⟨(hcd g g0).2 q, (S1 g g0).2 q⟩, fun k k0 k1 => (hcd _ (hu k k0 k1)).1 k k0 k1 rfl⟩⟩
      · show p = kt.1
        rw [ew]
        exact Option.some.inj (hw.symm.trans kt1)
      · exact zCh_c C1 kt2
      · intro g g0 g1 g2
        show cd' g.toNatClampNeg = 0 ↔ hc' (zFg gfx g.toNatClampNeg).toNatClampNeg = 0
        have f0 : 0 ≤ zFg gfx g.toNatClampNeg := (zct_b32 (b := fun g => decide (gfx g = (-1))) g0 (Int32.le_trans (Int32.le_of_lt g1) gc14)).1
        by_cases q : ∃ k : Int32, a ≤ k ∧ k < b ∧ un k.toNatClampNeg = g
        · obtain ⟨k, k0, k1, k2⟩ := q
          have e1 := (hcd g g0).1 k k0 k1 k2
          have e2 := (hhc _ f0).1 k k0 k1 (by rw [(U.2.1 k (kin k k0 k1).1 (kin k k0 k1).2).2.2, k2])
          exact ⟨fun w => absurd w e1, fun w => absurd w e2⟩
        · rw [(hcd g g0).2 (fun k k0 k1 k2 => q ⟨k, k0, k1, k2⟩), (hhc _ f0).2 (fun k k0 k1 k2 => ?_)]
          · exact D g g0 g1 g2
          · obtain ⟨u1, u2, u3⟩ := U.2.1 k (kin k k0 k1).1 (kin k k0 k1).2
            rw [u3] at k2
            exact q ⟨k, k0, k1, zFg_ne gc14 u1 ⟨g0, g1⟩ u2 g2 k2⟩
