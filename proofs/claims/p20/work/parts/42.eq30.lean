/-! all CHOICES: the c-th one, of both -/
theorem zl_un {τ κ : Type} {D : τ → (τ → Option κ) → Option κ} {t : τ} {o : κ} (h : ∃ m, zl D m t = some o) : ∃ m, D t (zl D m) = some o := by
  obtain ⟨m, h⟩ := h
  cases m with
  | zero => exact (zl_0 h).elim
  | succ m => exact ⟨m, zl_s rfl h⟩
/-- two loops; the first may go on while the second waits -/
theorem zl_ip4 {σ τ ρ κ : Type} {B : σ → (σ → Option ρ) → Option ρ} {D : τ → (τ → Option κ) → Option κ} {P : ρ → κ → Prop} (R : σ → τ → Prop) (hB : ∀ (s : σ) (t : τ) (k1 : σ → Option ρ) (o1 : ρ) (o2 : κ), R s t → (∀ s t o1 o2, R s t → k1 s = some o1 → (∃ m, zl D m t = some o2) → P o1 o2) → B s k1 = some o1 → (∃ m, zl D m t = some o2) → P o1 o2) : ∀ (n : Nat) (s : σ) (t : τ) (o1 : ρ) (o2 : κ), R s t → zl B n s = some o1 → (∃ m, zl D m t = some o2) → P o1 o2 := by
  intro n
  induction n with
  | zero => intro s t o1 o2 _ h _; exact (zl_0 h).elim
  | succ n ih => intro s t o1 o2 hR h1 h2; exact hB s t (zl B n) o1 o2 hR (fun s t o1 o2 hR h1 h2 => ih s t o1 o2 hR h1 h2) (zl_s rfl h1) h2
theorem zct_sj {b : Nat → Bool} : ∀ n : Nat, n ≤ 1000 → ∀ v : Int32, 0 ≤ v → v < zct b n → ∃ k : Nat, k < n ∧ b k = true ∧ zct b k = v := by
  intro n
  induction n with
  | zero => intro _ v h0 h1; exact absurd h1 (by show ¬ v < 0; grind)
  | succ n ih =>
    intro hn v h0 h1
    have hb := zct_b b n (by omega)
    have e : zct b (n + 1) = zct b n + (if b n = true then 1 else 0) := rfl
    by_cases c : b n = true
    · rw [if_pos c] at e
      by_cases d : v = zct b n
      · exact ⟨n, by omega, c, d.symm⟩
      · have lt : v < zct b n := by
          have k1 := zo_add e rfl zi_1' (by omega)
          have k2 := Int32.lt_iff_toInt_lt.mp h1
          have k3 : ¬ v.toInt = (zct b n).toInt := fun q => d (Int32.toInt_inj.mp q)
          exact Int32.lt_iff_toInt_lt.mpr (by omega)
        obtain ⟨k, k1, k2, k3⟩ := ih (by omega) v h0 lt
        exact ⟨k, by omega, k2, k3⟩
    · rw [if_neg c] at e
      rw [e] at h1
      obtain ⟨k, k1, k2, k3⟩ := ih (by omega) v h0 (by rw [Int32.add_zero] at h1; exact h1)
      exact ⟨k, by omega, k2, k3⟩
/-- the least NUMBER of a GROUP, by its place -/
theorem zLead {cN gc gfr gcl : Int32} {fx gof gfx gld mG : Nat → Int32} {g : Int32} (hN : 0 ≤ cN ∧ cN ≤ 14) (G : zGp cN gc gfr gcl gof gfx gld fx mG) (h0 : 0 ≤ g) (h1 : g < gc) : ∃ j : Int32, 0 ≤ j ∧ j < cN ∧ mG j.toNatClampNeg = j ∧ zRk mG j.toNatClampNeg = g := by
  rw [G.1.1] at h1
  have l14 := z14' hN.1 hN.2
  obtain ⟨k, k1, k2, k3⟩ := zct_sj cN.toNatClampNeg (by omega) g h0 h1
  obtain ⟨a1, a2, a3⟩ := zof hN.1 k1
  refine ⟨Int32.ofNat k, a1, a2, ?_, ?_⟩
  · rw [a3]; exact of_decide_eq_true k2
  · rw [a3]; exact k3
noncomputable def zFg (gfx : Nat → Int32) : Nat → Int32 := zct (fun g => decide (gfx g = (-1)))
noncomputable def zUR (cN cF gc : Int32) (gof gfx mG : Nat → Int32) (s t : Int32 × Int32 × (Nat → Int32)) : Prop :=
  t.1 = s.1 ∧ (0 ≤ s.1 ∧ s.1 ≤ 1023) ∧ ((-1) ≤ s.2.1 ∧ s.2.1 < gc) ∧ t.2.1 = zFg gfx (s.2.1 + 1).toNatClampNeg - 1 ∧ (∀ i : Int32, 0 ≤ i → i < cN → (s.2.1 < gof i.toNatClampNeg → s.2.2 (gof i.toNatClampNeg).toNatClampNeg = t.2.2 i.toNatClampNeg ∧ 0 ≤ t.2.2 i.toNatClampNeg ∧ t.2.2 i.toNatClampNeg < cF) ∧ (¬ gfx (gof i.toNatClampNeg).toNatClampNeg = (-1) → t.2.2 i.toNatClampNeg = gfx (gof i.toNatClampNeg).toNatClampNeg ∧ 0 ≤ t.2.2 i.toNatClampNeg ∧ t.2.2 i.toNatClampNeg < cF))
set_option maxHeartbeats 4000000 in
theorem zUnf {cF cc cN inp gc gfr gcl mHh mFn : Int32} {nF nN stp mst prc al made amt op fx jn lets gof gfx gld hand mF mN mCst mNF mNN mS mM mC mW mO m1 m2 mX mG mH mTr mFr : Nat → Int32} {mA mB : Nat → Int64} {c : Int32} {into x y : Nat → Int32} (T : zTN cF cc cN inp nF nN stp mst prc al made amt op fx jn lets mF mN mNF mNN mS mM mC mW mCst mO m1 m2 mX mG mA mB) (G : zGp cN gc gfr gcl gof gfx gld fx mG) (H : zHN cN cF gcl mHh gof gfx hand mH) (cl : 0 < cN ∧ gcl = 0) (hc : 0 ≤ c ∧ c ≤ 1023) (hfn : mFn = zFk gfx mG cN.toNatClampNeg) (hfr : ∀ k : Int32, 0 ≤ k → k < cN → mG k.toNatClampNeg = k → gfx (zRk mG k.toNatClampNeg).toNatClampNeg = (-1) → mFr (zFk gfx mG k.toNatClampNeg).toNatClampNeg = k) (h1 : fn_X1_unfold c cF gc gfx into = some x) (h2 : fn_X12_triesChoice c mFn mN mH mTr mFr mF mG = some y) : zCh cN cF gof x y := by
  have T0 := T
  obtain ⟨⟨f1, f2, f3⟩, hN, hC, hz, hp, hI, hff, hn, hg⟩ := T
  have cF0 : 0 < cF := hp cl.1
  obtain ⟨C, Dx⟩ := H.2.2 cl.1 cl.2
  unfold fn_X1_unfold at h1
  unfold fn_X12_triesChoice at h2
  obtain ⟨th, hth, h2⟩ := zb_s h2
  have tr := zTrH hN hth
  rw [zn01.1, f1] at h2
  have gb := zRk_b (G := mG) (p := cN) hN.2.1 hN.2.2
  rw [← G.1.1] at gb
  have l14 := z14' hN.2.1 hN.2.2
  have ef : zFg gfx gc.toNatClampNeg = zFk gfx mG cN.toNatClampNeg := by rw [G.1.1]; exact zFreeC gfx mG cN.toNatClampNeg l14
  have gr : ∀ i : Int32, 0 ≤ i → i < cN → (0 ≤ gof i.toNatClampNeg ∧ gof i.toNatClampNeg < 14) ∧ gof i.toNatClampNeg < gc := by
    intro i i0 i1
    obtain ⟨l1, l2, l3⟩ := hg.1 i i0 i1
    have b1 := zRk_lt (G := mG) l1 (show mG i.toNatClampNeg < cN by grind) hN.2.2 l3
    rw [← G.1.1, ← G.1.2.1 i i0 i1] at b1
    exact ⟨zGofR hN.2.2 hg G ⟨i0, i1⟩, b1⟩
  refine zl_ip4 (P := fun x y => zCh cN cF gof x y) (fun s t => zUR cN cF gc gof gfx mG s t) ?_ _ _ _ _ _ ?_ h1 ⟨_, h2⟩
  · intro s t k1 o1 o2 ⟨R1, R2, R3, R4, R5⟩ hb ho1 ho2
    obtain ⟨rest, g, row⟩ := s
    obtain ⟨left, k, tt⟩ := t
    dsimp only at R1 R2 R3 R4 R5
    subst R1
    by_cases c1 : g < 0
    · rw [if_pos c1] at ho1
      obtain ⟨m, ho2⟩ := zl_un ho2
      have k0 : k < 0 := by
        rw [R4, show g = (-1) by grind, show ((-1) + 1 : Int32).toNatClampNeg = 0 by decide +kernel]
        show (0 : Int32) - 1 < 0
        decide
      rw [if_pos k0] at ho2
      rw [← Option.some.inj ho1, ← Option.some.inj ho2]
      intro i i0 i1
      obtain ⟨a1, a2⟩ := gr i i0 i1
      exact ⟨a1, (R5 i i0 i1).1 (by grind)⟩
    · rw [if_neg c1] at ho1
      obtain ⟨-, ho1⟩ := zg_s ho1
      simp only [zn] at ho1
      have g0 : 0 ≤ g := by grind
      have g14 : g < 14 := by grind
      by_cases d : gfx g.toNatClampNeg = (-1)
      · rw [if_pos d, if_neg (show ¬ cF ≤ 0 by grind)] at ho1
        obtain ⟨-, ho1⟩ := zd_s ho1
        obtain ⟨-, ho1⟩ := zd_s ho1
        have e1 : zFg gfx (g + 1).toNatClampNeg = zFg gfx g.toNatClampNeg + 1 := zct_t g0 (by grind) (decide_eq_true d)
        have b1 : 0 ≤ zFg gfx g.toNatClampNeg ∧ zFg gfx g.toNatClampNeg ≤ g := zct_b32 g0 (by grind)
        rw [e1] at R4
        have ek : k = zFg gfx g.toNatClampNeg := by rw [R4]; generalize zFg gfx g.toNatClampNeg = q at b1; grind
        obtain ⟨m, ho2⟩ := zl_un ho2
        rw [if_neg (show ¬ k < 0 by rw [ek]; grind)] at ho2
        obtain ⟨-, ho2⟩ := zg_s ho2
        obtain ⟨-, ho2⟩ := zd_s ho2
        simp only [zn] at ho2
        obtain ⟨tg, htg, ho2⟩ := zb_s ho2
        obtain ⟨-, ho2⟩ := zd_s ho2
        obtain ⟨j, j0, j1, j2, j3⟩ := zLead hN.2 G g0 R3.2
        have ej : mFr k.toNatClampNeg = j := by
          have := hfr j j0 j1 j2 (by rw [j3]; exact d)
          have e9 : zFg gfx (zRk mG j.toNatClampNeg).toNatClampNeg = zFk gfx mG j.toNatClampNeg := zFreeC gfx mG j.toNatClampNeg (z14' j0 (by grind))
          rw [← e9, j3] at this
          rw [ek]; exact this
        rw [ej] at htg
        have tgs := zTrG hN htg
        obtain ⟨d1, d2, d3, d4⟩ := zdivm left cF R2.1 R2.2 (by grind) f3
        refine hb _ _ _ _ ?_ ho1 ⟨m, ho2⟩
        refine ⟨rfl, ⟨d1, (show left / cF ≤ 1023 by grind)⟩, ⟨(show (-1) ≤ g + (-1) by grind), (show g + (-1) < gc by grind)⟩, ?_, fun i i0 i1 => ?_⟩
        · show k + (-1) = zFg gfx (g + (-1) + 1).toNatClampNeg - 1
          rw [show g + (-1) + 1 = g by grind, ek]
          generalize zFg gfx g.toNatClampNeg = q
          grind
        · obtain ⟨a1, a2⟩ := gr i i0 i1
          have same : mG i.toNatClampNeg = j ↔ gof i.toNatClampNeg = g := by
            have ej2 : gof j.toNatClampNeg = g := by rw [G.1.2.1 j j0 j1, j2, j3]
            have := zGp_eq hN.2.2 hg G ⟨i0, i1⟩ ⟨j0, j1⟩
            rw [ej2, j2] at this
            exact this.symm
          show (g + (-1) < gof i.toNatClampNeg → upd (upd row g.toNatClampNeg (gfx g.toNatClampNeg)) g.toNatClampNeg (left - left / cF * cF) (gof i.toNatClampNeg).toNatClampNeg = tg i.toNatClampNeg ∧ 0 ≤ tg i.toNatClampNeg ∧ tg i.toNatClampNeg < cF) ∧ (¬ gfx (gof i.toNatClampNeg).toNatClampNeg = (-1) → tg i.toNatClampNeg = gfx (gof i.toNatClampNeg).toNatClampNeg ∧ 0 ≤ tg i.toNatClampNeg ∧ tg i.toNatClampNeg < cF)
          rw [tgs i i0 i1, zup g0 a1.1, zup g0 a1.1]
          by_cases w : gof i.toNatClampNeg = g
          · rw [if_pos w, if_pos (same.mpr w)]
            exact ⟨fun _ => ⟨rfl, d3, d4⟩, fun q => absurd (by rw [w]; exact d) q⟩
          · rw [if_neg w, if_neg w, if_neg (fun q => w (same.mp q))]
            exact ⟨fun q => (R5 i i0 i1).1 (by grind), (R5 i i0 i1).2⟩
      · rw [if_neg d] at ho1
        have e1 : zFg gfx (g + 1).toNatClampNeg = zFg gfx g.toNatClampNeg := zct_f g0 (by grind) (fun q => d (of_decide_eq_true q))
        refine hb _ _ _ _ ?_ ho1 ho2
        refine ⟨rfl, R2, ⟨(show (-1) ≤ g + (-1) by grind), (show g + (-1) < gc by grind)⟩, ?_, fun i i0 i1 => ?_⟩
        · show k = zFg gfx (g + (-1) + 1).toNatClampNeg - 1
          rw [show g + (-1) + 1 = g by grind, R4, e1]
        · obtain ⟨a1, a2⟩ := gr i i0 i1
          show (g + (-1) < gof i.toNatClampNeg → upd row g.toNatClampNeg (gfx g.toNatClampNeg) (gof i.toNatClampNeg).toNatClampNeg = tt i.toNatClampNeg ∧ 0 ≤ tt i.toNatClampNeg ∧ tt i.toNatClampNeg < cF) ∧ (¬ gfx (gof i.toNatClampNeg).toNatClampNeg = (-1) → tt i.toNatClampNeg = gfx (gof i.toNatClampNeg).toNatClampNeg ∧ 0 ≤ tt i.toNatClampNeg ∧ tt i.toNatClampNeg < cF)
          rw [zup g0 a1.1]
          refine ⟨fun q => ?_, (R5 i i0 i1).2⟩
          by_cases w : gof i.toNatClampNeg = g
          · rw [if_pos w]
            have := (R5 i i0 i1).2 (by rw [w]; exact d)
            rw [w] at this
            exact ⟨this.1.symm, this.2⟩
          · rw [if_neg w]; exact (R5 i i0 i1).1 (by grind)
  · refine ⟨rfl, hc, ⟨(show (-1) ≤ gc - 1 by grind), (show gc - 1 < gc by grind)⟩, ?_, fun i i0 i1 => ⟨fun q => ?_, fun q => ?_⟩⟩
    · show mFn - 1 = zFg gfx (gc - 1 + 1).toNatClampNeg - 1
      rw [show gc - 1 + 1 = gc by grind, ef, hfn]
    · exact absurd (gr i i0 i1).2 (by have q : gc - 1 < gof i.toNatClampNeg := q; grind)
    · obtain ⟨c1, c2, c3, c4⟩ := C i i0 i1
      show th i.toNatClampNeg = gfx (gof i.toNatClampNeg).toNatClampNeg ∧ 0 ≤ th i.toNatClampNeg ∧ th i.toNatClampNeg < cF
      rw [tr i i0 i1, ← Dx i i0 i1 q, c2]
      exact ⟨rfl, c3, c4⟩
