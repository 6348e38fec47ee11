/-! BY HALVES: a part of the row -/
noncomputable def zUc (gfx cd : Nat → Int32) : Nat → Int32 := zct (fun g => decide (gfx g = (-1) ∧ cd g = 0))
noncomputable def zHc (hc : Nat → Int32) : Nat → Int32 := zct (fun k => decide (hc k = 0))
noncomputable def zCd (gc : Int32) (gfx cd hc : Nat → Int32) : Prop := ∀ g : Int32, 0 ≤ g → g < gc → gfx g.toNatClampNeg = (-1) → (cd g.toNatClampNeg = 0 ↔ hc (zFg gfx g.toNatClampNeg).toNatClampNeg = 0)
theorem zUcH {gc : Int32} {gfx cd hc : Nat → Int32} (hg : 0 ≤ gc ∧ gc ≤ 14) (D : zCd gc gfx cd hc) : ∀ k : Nat, k ≤ gc.toNatClampNeg → zUc gfx cd k = zHc hc (zFg gfx k).toNatClampNeg := by
  intro k
  have l14 := z14' hg.1 hg.2
  induction k with
  | zero =>
    intro _
    show (0 : Int32) = zct _ (0 : Int32).toNatClampNeg
    rw [zn01.1]
    rfl
  | succ k ih =>
    intro hk
    have h := ih (by omega)
    obtain ⟨a1, a2, a3⟩ := zof hg.1 (show k < gc.toNatClampNeg by omega)
    have hb := zct_b (fun g => decide (gfx g = (-1))) k (by omega)
    have r : 0 ≤ zFg gfx k ∧ zFg gfx k ≤ 1200 := ⟨Int32.le_iff_toInt_le.mpr (by rw [zi_0]; exact hb.1), Int32.le_iff_toInt_le.mpr (by rw [z1200]; exact Int.le_trans hb.2 (by omega))⟩
    by_cases c : gfx k = (-1)
    · have e : zFg gfx (k + 1) = zFg gfx k + 1 := by
        show zFg gfx k + (if decide (gfx k = (-1)) = true then 1 else 0) = _
        rw [if_pos (decide_eq_true c)]
      have dk := D (Int32.ofNat k) a1 a2 (by rw [a3]; exact c)
      rw [a3] at dk
      by_cases d : cd k = 0
      · show zUc gfx cd k + (if decide (gfx k = (-1) ∧ cd k = 0) = true then 1 else 0) = _
        rw [if_pos (decide_eq_true ⟨c, d⟩), e, h]
        exact (zct_t (b := fun k => decide (hc k = 0)) r.1 r.2 (decide_eq_true (dk.mp d))).symm
      · show zUc gfx cd k + (if decide (gfx k = (-1) ∧ cd k = 0) = true then 1 else 0) = _
        rw [if_neg (fun q => d (of_decide_eq_true q).2), e, h, Int32.add_zero]
        exact (zct_f (b := fun k => decide (hc k = 0)) r.1 r.2 (fun q => d (dk.mpr (of_decide_eq_true q)))).symm
    · have e : zFg gfx (k + 1) = zFg gfx k := by
        show zFg gfx k + (if decide (gfx k = (-1)) = true then 1 else 0) = _
        rw [if_neg (fun q => c (of_decide_eq_true q))]
        exact Int32.add_zero _
      show zUc gfx cd k + (if decide (gfx k = (-1) ∧ cd k = 0) = true then 1 else 0) = _
      rw [if_neg (fun q => c (of_decide_eq_true q).1), e, h, Int32.add_zero]
theorem zFindU {gc : Int32} {gfx cd un : Nat → Int32} {x : Int32 × (Nat → Int32)} (hg : 0 ≤ gc ∧ gc ≤ 14) (h : fn_X3_findUnchanged gc gfx cd un = some x) : x.1 = zUc gfx cd gc.toNatClampNeg ∧ (∀ g : Int32, 0 ≤ g → g < gc → gfx g.toNatClampNeg = (-1) → cd g.toNatClampNeg = 0 → x.2 (zUc gfx cd g.toNatClampNeg).toNatClampNeg = g) := by
  unfold fn_X3_findUnchanged at h
  refine zl_ip (P := fun x : Int32 × (Nat → Int32) => x.1 = zUc gfx cd gc.toNatClampNeg ∧ (∀ g : Int32, 0 ≤ g → g < gc → gfx g.toNatClampNeg = (-1) → cd g.toNatClampNeg = 0 → x.2 (zUc gfx cd g.toNatClampNeg).toNatClampNeg = g)) (fun s => 0 ≤ s.2.1 ∧ s.2.1 ≤ gc ∧ s.1 = zUc gfx cd s.2.1.toNatClampNeg ∧ (∀ g : Int32, 0 ≤ g → g < s.2.1 → gfx g.toNatClampNeg = (-1) → cd g.toNatClampNeg = 0 → s.2.2 (zUc gfx cd g.toNatClampNeg).toNatClampNeg = g)) ?_ _ _ _ ?_ h
  rotate_left
  · exact ⟨Int32.le_refl 0, hg.1, by show (0 : Int32) = zct _ (0 : Int32).toNatClampNeg; rw [zn01.1]; rfl, fun k k1 k2 => absurd k2 (by show ¬ k < 0; grind)⟩
  intro s back o ⟨H1, H2, H3, H4⟩ hb ho
  obtain ⟨n, k, row⟩ := s
  dsimp only at H1 H2 H3 H4 ho
  by_cases c : gc ≤ k
  · rw [if_pos c] at ho
    rw [Int32.le_antisymm H2 c] at H3 H4
    rw [← Option.some.inj ho]
    exact ⟨H3, H4⟩
  · rw [if_neg c] at ho
    obtain ⟨-, ho⟩ := zg_s ho
    have hk : k < gc := Int32.not_le.mp c
    have kb : (0 ≤ k ∧ k < 100000) ∧ k ≤ 14 ∧ k ≤ 1200 ∧ 0 ≤ k + 1 ∧ k + 1 ≤ gc := ⟨(zN14 H1 hk hg.2).1, (zN14 H1 hk hg.2).2.2⟩
    have skip : ¬ (gfx k.toNatClampNeg = (-1) ∧ cd k.toNatClampNeg = 0) → back (n, k + 1, row) = some o → (o.1 = zUc gfx cd gc.toNatClampNeg ∧ (∀ g : Int32, 0 ≤ g → g < gc → gfx g.toNatClampNeg = (-1) → cd g.toNatClampNeg = 0 → o.2 (zUc gfx cd g.toNatClampNeg).toNatClampNeg = g)) := by
      intro w hbk
      refine hb _ _ ?_ hbk
      refine ⟨kb.2.2.2.1, kb.2.2.2.2, ?_, fun j j1 j2 j3 j4 => ?_⟩
      · show n = zUc gfx cd (k + 1).toNatClampNeg
        rw [H3]
        exact (zct_f (b := fun g => decide (gfx g = (-1) ∧ cd g = 0)) H1 kb.2.2.1 (fun q => w (of_decide_eq_true q))).symm
      · rcases zlt1 kb.1 j2 with q | q
        · rw [q] at j3 j4; exact absurd ⟨j3, j4⟩ w
        · exact H4 j j1 q j3 j4
    by_cases d : gfx k.toNatClampNeg = (-1)
    · rw [if_pos d] at ho
      by_cases e : cd k.toNatClampNeg = 0
      · rw [if_pos e] at ho
        obtain ⟨-, ho⟩ := zg_s ho
        refine hb _ _ ?_ ho
        refine ⟨kb.2.2.2.1, kb.2.2.2.2, ?_, fun j j1 j2 j3 j4 => ?_⟩
        · show n + 1 = zUc gfx cd (k + 1).toNatClampNeg
          rw [H3]
          exact (zct_t (b := fun g => decide (gfx g = (-1) ∧ cd g = 0)) H1 kb.2.2.1 (decide_eq_true ⟨d, e⟩)).symm
        · have nk : 0 ≤ zUc gfx cd k.toNatClampNeg := (zct_b32 (b := fun g => decide (gfx g = (-1) ∧ cd g = 0)) H1 kb.2.1).1
          show upd row n.toNatClampNeg k (zUc gfx cd j.toNatClampNeg).toNatClampNeg = j
          rcases zlt1 kb.1 j2 with q | q
          · rw [q, H3, zup nk nk, if_pos rfl]
          · have nj : 0 ≤ zUc gfx cd j.toNatClampNeg := (zct_b32 (b := fun g => decide (gfx g = (-1) ∧ cd g = 0)) j1 (Int32.le_trans (Int32.le_of_lt q) kb.2.1)).1
            have lt : zUc gfx cd j.toNatClampNeg < zUc gfx cd k.toNatClampNeg := zct_lt (b := fun g => decide (gfx g = (-1) ∧ cd g = 0)) j1 q kb.2.1 (decide_eq_true ⟨j3, j4⟩)
            rw [H3, zup nk nj, if_neg (fun w => by rw [w] at lt; exact absurd lt Int32.lt_irrefl)]
            exact H4 j j1 q j3 j4
      · rw [if_neg e] at ho
        exact skip (fun q => e q.2) ho
    · rw [if_neg d] at ho
      exact skip (fun q => d q.1) ho
/-- the row of GROUPS that stand unchanged, in both -/
noncomputable def zUn (gc n : Int32) (gfx un wr : Nat → Int32) : Prop := (0 ≤ n ∧ n ≤ 14) ∧ (∀ i : Int32, 0 ≤ i → i < n → (0 ≤ un i.toNatClampNeg ∧ un i.toNatClampNeg < gc) ∧ gfx (un i.toNatClampNeg).toNatClampNeg = (-1) ∧ wr i.toNatClampNeg = zFg gfx (un i.toNatClampNeg).toNatClampNeg) ∧ (∀ i j : Int32, 0 ≤ i → i < j → j < n → un i.toNatClampNeg < un j.toNatClampNeg)
theorem zUn_of {gc n : Int32} {gfx cd hc un wr : Nat → Int32} (hg : 0 ≤ gc ∧ gc ≤ 14) (D : zCd gc gfx cd hc) (hn : n = zUc gfx cd gc.toNatClampNeg) (hu : ∀ g : Int32, 0 ≤ g → g < gc → gfx g.toNatClampNeg = (-1) → cd g.toNatClampNeg = 0 → un (zUc gfx cd g.toNatClampNeg).toNatClampNeg = g) (hr : ∀ k : Int32, 0 ≤ k → k < zFg gfx gc.toNatClampNeg → hc k.toNatClampNeg = 0 → wr (zHc hc k.toNatClampNeg).toNatClampNeg = k) : zUn gc n gfx un wr ∧ (∀ i : Int32, 0 ≤ i → i < n → cd (un i.toNatClampNeg).toNatClampNeg = 0) := by
  have l14 := z14' hg.1 hg.2
  have b := zct_b32 (b := fun g => decide (gfx g = (-1) ∧ cd g = 0)) hg.1 hg.2
  have nb : 0 ≤ n ∧ n ≤ 14 := by rw [hn]; exact ⟨b.1, Int32.le_trans b.2 hg.2⟩
  have key : ∀ i : Int32, 0 ≤ i → i < n → ∃ g : Int32, 0 ≤ g ∧ g < gc ∧ gfx g.toNatClampNeg = (-1) ∧ cd g.toNatClampNeg = 0 ∧ zUc gfx cd g.toNatClampNeg = i ∧ un i.toNatClampNeg = g ∧ wr i.toNatClampNeg = zFg gfx g.toNatClampNeg := by
    intro i i0 i1
    rw [hn] at i1
    obtain ⟨k, k1, k2, k3⟩ := zct_sj gc.toNatClampNeg (by omega) i i0 i1
    obtain ⟨a1, a2, a3⟩ := zof hg.1 k1
    obtain ⟨c1, c2⟩ := of_decide_eq_true k2
    have u := hu (Int32.ofNat k) a1 a2 (by rw [a3]; exact c1) (by rw [a3]; exact c2)
    have ek : zUc gfx cd k = i := k3
    rw [a3, ek] at u
    have fl : zFg gfx (Int32.ofNat k).toNatClampNeg < zFg gfx gc.toNatClampNeg := zct_lt (b := fun g => decide (gfx g = (-1))) a1 a2 hg.2 (by rw [a3]; exact decide_eq_true c1)
    have f0 : 0 ≤ zFg gfx (Int32.ofNat k).toNatClampNeg := (zct_b32 (b := fun g => decide (gfx g = (-1))) a1 (Int32.le_trans (Int32.le_of_lt a2) hg.2)).1
    have h0 := (D (Int32.ofNat k) a1 a2 (by rw [a3]; exact c1)).mp (by rw [a3]; exact c2)
    have r := hr _ f0 fl h0
    have eh := zUcH hg D k (by omega)
    rw [ek] at eh
    rw [a3, ← eh] at r
    refine ⟨Int32.ofNat k, a1, a2, by rw [a3]; exact c1, by rw [a3]; exact c2, by rw [a3]; exact ek, u, ?_⟩
    rw [a3]
    exact r
  refine ⟨⟨nb, fun i i0 i1 => ?_, fun i j i0 ij j1 => ?_⟩, fun i i0 i1 => ?_⟩
  · obtain ⟨g, g0, g1, g2, g3, g4, g5, g6⟩ := key i i0 i1
    rw [g5]
    exact ⟨⟨g0, g1⟩, g2, g6⟩
  · obtain ⟨g, g0, g1, g2, g3, g4, g5, g6⟩ := key i i0 (zltt ij j1)
    obtain ⟨h, h0, h1, h2, h3, h4, h5, h6⟩ := key j (Int32.le_trans i0 (Int32.le_of_lt ij)) j1
    rw [g5, h5]
    apply Int32.not_le.mp
    intro q
    have m : zUc gfx cd h.toNatClampNeg ≤ zUc gfx cd g.toNatClampNeg := zct_m32 (b := fun g => decide (gfx g = (-1) ∧ cd g = 0)) h0 q (Int32.le_trans (Int32.le_of_lt g1) hg.2)
    rw [g4, h4] at m
    exact absurd ij (Int32.not_lt.mpr m)
  · obtain ⟨g, g0, g1, g2, g3, g4, g5, g6⟩ := key i i0 i1
    rw [g5]
    exact g3
theorem zUn_ne {gc n : Int32} {gfx un wr : Nat → Int32} (U : zUn gc n gfx un wr) {i j : Int32} (hi : 0 ≤ i ∧ i < n) (hj : 0 ≤ j ∧ j < n) (h : ¬ i = j) : ¬ un i.toNatClampNeg = un j.toNatClampNeg := by
  intro e
  rcases (zNe h) with q | q
  · have := U.2.2 i j hi.1 q hj.2
    rw [e] at this
    exact absurd this Int32.lt_irrefl
  · have := U.2.2 j i hj.1 q hi.2
    rw [e] at this
    exact absurd this Int32.lt_irrefl
/-- a part set to a FORMAT, by GROUPS -/
theorem zSetP {a b f : Int32} {un row x : Nat → Int32} (hab : 0 ≤ a ∧ a ≤ b ∧ b ≤ 14) (hu : ∀ k : Int32, a ≤ k → k < b → 0 ≤ un k.toNatClampNeg) (h : fn_X3_setPart a b f un row = some x) : ∀ i : Int32, 0 ≤ i → (∀ k : Int32, a ≤ k → k < b → un k.toNatClampNeg = i → x i.toNatClampNeg = f) ∧ ((∀ k : Int32, a ≤ k → k < b → ¬ un k.toNatClampNeg = i) → x i.toNatClampNeg = row i.toNatClampNeg) := by
  unfold fn_X3_setPart at h
  refine zl_ip (P := fun x : Nat → Int32 => ∀ i : Int32, 0 ≤ i → (∀ k : Int32, a ≤ k → k < b → un k.toNatClampNeg = i → x i.toNatClampNeg = f) ∧ ((∀ k : Int32, a ≤ k → k < b → ¬ un k.toNatClampNeg = i) → x i.toNatClampNeg = row i.toNatClampNeg)) (fun s => (a ≤ s.1 ∧ s.1 ≤ b) ∧ ∀ i : Int32, 0 ≤ i → (∀ k : Int32, a ≤ k → k < s.1 → un k.toNatClampNeg = i → s.2 i.toNatClampNeg = f) ∧ ((∀ k : Int32, a ≤ k → k < s.1 → ¬ un k.toNatClampNeg = i) → s.2 i.toNatClampNeg = row i.toNatClampNeg)) ?_ _ _ _ ?_ h
  rotate_left
  · exact ⟨⟨Int32.le_refl a, hab.2.1⟩, fun i i0 => ⟨fun k k0 k1 => absurd k1 (Int32.not_lt.mpr k0), fun _ => rfl⟩⟩
  intro s back o ⟨H1, H2⟩ hb ho
  obtain ⟨k, r⟩ := s
  dsimp only at H1 H2 ho
  by_cases c : b ≤ k
  · rw [if_pos c] at ho
    rw [Int32.le_antisymm H1.2 c] at H2
    rw [← Option.some.inj ho]
    exact H2
  · rw [if_neg c] at ho
    obtain ⟨-, ho⟩ := zg_s ho
    obtain ⟨-, ho⟩ := zg_s ho
    have kb : k < b := Int32.not_le.mp c
    have k1 : (0 ≤ k ∧ k < 100000) ∧ a ≤ k + 1 ∧ k + 1 ≤ b := zNab (Int32.le_trans hab.1 H1.1) H1.1 kb hab.2.2
    have u0 := hu k H1.1 kb
    refine hb _ _ ?_ ho
    refine ⟨k1.2, fun i i0 => ⟨fun l l0 l1 l2 => ?_, fun w => ?_⟩⟩
    · show upd r (un k.toNatClampNeg).toNatClampNeg f i.toNatClampNeg = f
      rw [zup u0 i0]
      by_cases q : i = un k.toNatClampNeg
      · rw [if_pos q]
      · rw [if_neg q]
        rcases zlt1 k1.1 l1 with z | z
        · rw [z] at l2; exact absurd l2.symm q
        · exact (H2 i i0).1 l l0 z l2
    · show upd r (un k.toNatClampNeg).toNatClampNeg f i.toNatClampNeg = row i.toNatClampNeg
      have nk : ¬ i = un k.toNatClampNeg := fun q => w k H1.1 (zlt3 k1.1).1 q.symm
      rw [zup u0 i0, if_neg nk]
      exact (H2 i i0).2 (fun l l0 l1 => w l l0 (zlt2 k1.1 l1))
theorem zFg_ne {gc g h : Int32} {gfx : Nat → Int32} (hc : gc ≤ 14) (hg : 0 ≤ g ∧ g < gc) (hh : 0 ≤ h ∧ h < gc) (fg : gfx g.toNatClampNeg = (-1)) (fh : gfx h.toNatClampNeg = (-1)) (e : zFg gfx g.toNatClampNeg = zFg gfx h.toNatClampNeg) : g = h := by
  apply Classical.byContradiction
  intro n
  rcases (zNe n) with q | q
  · have : zFg gfx g.toNatClampNeg < zFg gfx h.toNatClampNeg := zct_lt (b := fun g => decide (gfx g = (-1))) hg.1 q (Int32.le_trans (Int32.le_of_lt hh.2) hc) (decide_eq_true fg)
    rw [e] at this
    exact absurd this Int32.lt_irrefl
  · have : zFg gfx h.toNatClampNeg < zFg gfx g.toNatClampNeg := zct_lt (b := fun g => decide (gfx g = (-1))) hh.1 q (Int32.le_trans (Int32.le_of_lt hg.2) hc) (decide_eq_true fh)
    rw [e] at this
    exact absurd this Int32.lt_irrefl
/-- what the class says of a part, what the reference does -/
noncomputable def zPt (cN cF gc a b ts : Int32) (gof gfx un cd row : Nat → Int32) (x : Int32 × Int32 × (Nat → Int32) × Int32 × Int32 × (Nat → Int64) × (Nat → Int32)) (y : Int32 × Int32 × Int32 × Int32 × Int32 × (Nat → Int32) × (Nat → Int32) × (Nat → Int64) × (Nat → Int64) × (Nat → Int64) × (Nat → Int32)) : Prop := x.1 = y.1 ∧ x.2.1 = y.2.2.2.1 ∧ y.2.2.2.2.1 = ts + 1 ∧ zCh cN cF gof x.2.2.1 y.2.2.2.2.2.1 ∧ zCd gc gfx x.2.2.2.2.2.2 y.2.2.2.2.2.2.2.2.2.2 ∧ (x.1 = 0 ∧ x.2.2.2.2.2.2 = cd ∧ (∀ i : Int32, 0 ≤ i → x.2.2.1 i.toNatClampNeg = row i.toNatClampNeg) ∨ ¬ x.1 = 0 ∧ (∀ g : Int32, 0 ≤ g → (∀ k : Int32, a ≤ k → k < b → ¬ un k.toNatClampNeg = g) → x.2.2.2.2.2.2 g.toNatClampNeg = cd g.toNatClampNeg ∧ x.2.2.1 g.toNatClampNeg = row g.toNatClampNeg) ∧ (∀ k : Int32, a ≤ k → k < b → ¬ x.2.2.2.2.2.2 (un k.toNatClampNeg).toNatClampNeg = 0))
theorem znar : ¬ vp_nar .boolean 1 = 0 ∧ vp_nar .boolean 0 = 0 := by decide +kernel
theorem zMark {ρ : Type} {a b : Int32} {un cd : Nat → Int32} {K : Int32 × (Nat → Int32) → Option ρ} {n : Nat} {o : ρ} (hab : 0 ≤ a ∧ a ≤ b ∧ b ≤ 14) (hu : ∀ k : Int32, a ≤ k → k < b → 0 ≤ un k.toNatClampNeg) (h : zl (fun (s : Int32 × (Nat → Int32)) back => if b ≤ s.1 then K s else zg s.1 14 (zg (un s.1.toNatClampNeg) 14 (zn (upd s.2 (un s.1.toNatClampNeg).toNatClampNeg (vp_nar .boolean 1)) (fun g => back (s.1 + 1, g))))) n (a, cd) = some o) : ∃ (k : Int32) (m : Nat → Int32), K (k, m) = some o ∧ ∀ i : Int32, 0 ≤ i → (∀ k : Int32, a ≤ k → k < b → un k.toNatClampNeg = i → ¬ m i.toNatClampNeg = 0) ∧ ((∀ k : Int32, a ≤ k → k < b → ¬ un k.toNatClampNeg = i) → m i.toNatClampNeg = cd i.toNatClampNeg) := by
  refine zl_ip (P := fun o : ρ => ∃ (k : Int32) (m : Nat → Int32), K (k, m) = some o ∧ ∀ i : Int32, 0 ≤ i → (∀ k : Int32, a ≤ k → k < b → un k.toNatClampNeg = i → ¬ m i.toNatClampNeg = 0) ∧ ((∀ k : Int32, a ≤ k → k < b → ¬ un k.toNatClampNeg = i) → m i.toNatClampNeg = cd i.toNatClampNeg)) (fun s => (a ≤ s.1 ∧ s.1 ≤ b) ∧ ∀ i : Int32, 0 ≤ i → (∀ k : Int32, a ≤ k → k < s.1 → un k.toNatClampNeg = i → ¬ s.2 i.toNatClampNeg = 0) ∧ ((∀ k : Int32, a ≤ k → k < s.1 → ¬ un k.toNatClampNeg = i) → s.2 i.toNatClampNeg = cd i.toNatClampNeg)) ?_ _ _ _ ?_ h
  rotate_left
  · exact ⟨⟨Int32.le_refl a, hab.2.1⟩, fun i i0 => ⟨fun k k0 k1 => absurd k1 (Int32.not_lt.mpr k0), fun _ => rfl⟩⟩
  intro s back o ⟨H1, H2⟩ hb ho
  obtain ⟨k, r⟩ := s
  dsimp only at H1 H2 ho
  by_cases c : b ≤ k
  · rw [if_pos c] at ho
    rw [Int32.le_antisymm H1.2 c] at H2
    exact ⟨k, r, ho, H2⟩
  · rw [if_neg c] at ho
    obtain ⟨-, ho⟩ := zg_s ho
    obtain ⟨-, ho⟩ := zg_s ho
    have ho := zn_s ho rfl
    have kb : k < b := Int32.not_le.mp c
    have k1 : (0 ≤ k ∧ k < 100000) ∧ a ≤ k + 1 ∧ k + 1 ≤ b := zNab (Int32.le_trans hab.1 H1.1) H1.1 kb hab.2.2
    have u0 := hu k H1.1 kb
    refine hb _ _ ?_ ho
    refine ⟨k1.2, fun i i0 => ⟨fun l l0 l1 l2 => ?_, fun w => ?_⟩⟩
    · show ¬ upd r (un k.toNatClampNeg).toNatClampNeg (vp_nar .boolean 1) i.toNatClampNeg = 0
      rw [zup u0 i0]
      by_cases q : i = un k.toNatClampNeg
      · rw [if_pos q]; exact znar.1
      · rw [if_neg q]
        rcases zlt1 k1.1 l1 with z | z
        · rw [z] at l2; exact absurd l2.symm q
        · exact (H2 i i0).1 l l0 z l2
    · show upd r (un k.toNatClampNeg).toNatClampNeg (vp_nar .boolean 1) i.toNatClampNeg = cd i.toNatClampNeg
      have nk : ¬ i = un k.toNatClampNeg := fun q => w k H1.1 (zlt3 k1.1).1 q.symm
      rw [zup u0 i0, if_neg nk]
      exact (H2 i i0).2 (fun l l0 l1 => w l l0 (zlt2 k1.1 l1))
theorem zCopyK {ρ : Type} {c : Int32} {so tr : Nat → Int32} {K : Int32 × (Nat → Int32) → Option ρ} {n : Nat} {o : ρ} (hc : 0 ≤ c ∧ c ≤ 14) (h : zl (fun (s : Int32 × (Nat → Int32)) back => if c ≤ s.1 then K s else zg s.1 14 (back (s.1 + 1, upd s.2 s.1.toNatClampNeg (so s.1.toNatClampNeg)))) n (0, tr) = some o) : ∃ (k : Int32) (m : Nat → Int32), K (k, m) = some o ∧ ∀ i : Int32, 0 ≤ i → i < c → m i.toNatClampNeg = so i.toNatClampNeg := by
  refine zl_ip (P := fun o : ρ => ∃ (k : Int32) (m : Nat → Int32), K (k, m) = some o ∧ ∀ i : Int32, 0 ≤ i → i < c → m i.toNatClampNeg = so i.toNatClampNeg) (fun s => (0 ≤ s.1 ∧ s.1 ≤ c) ∧ ∀ i : Int32, 0 ≤ i → i < s.1 → s.2 i.toNatClampNeg = so i.toNatClampNeg) ?_ _ _ _ ?_ h
  rotate_left
  · exact ⟨⟨Int32.le_refl 0, hc.1⟩, fun i i0 i1 => absurd i1 (Int32.not_lt.mpr i0)⟩
  intro s back o ⟨H1, H2⟩ hb ho
  obtain ⟨k, r⟩ := s
  dsimp only at H1 H2 ho
  by_cases d : c ≤ k
  · rw [if_pos d] at ho
    rw [Int32.le_antisymm H1.2 d] at H2
    exact ⟨k, r, ho, H2⟩
  · rw [if_neg d] at ho
    obtain ⟨-, ho⟩ := zg_s ho
    have k1 : (0 ≤ k ∧ k < 100000) ∧ 0 ≤ k + 1 ∧ k + 1 ≤ c := ⟨(zN14 H1.1 (Int32.not_le.mp d) hc.2).1, (zN14 H1.1 (Int32.not_le.mp d) hc.2).2.2.2.2⟩
    refine hb _ _ ?_ ho
    refine ⟨k1.2, fun i i0 i1 => ?_⟩
    show upd r k.toNatClampNeg (so k.toNatClampNeg) i.toNatClampNeg = so i.toNatClampNeg
    rw [zup H1.1 i0]
    rcases zlt1 k1.1 i1 with q | q
    · rw [if_pos q, q]
    · rw [if_neg (fun z => by rw [z] at q; exact absurd q Int32.lt_irrefl)]; exact H2 i i0 q
theorem zTryP {cN : Int32} {mN mG : Nat → Int32} {ρ : Type} {a b f : Int32} {fr wr t0 : Nat → Int32} {K : Int32 × (Nat → Int32) → Option ρ} {n : Nat} {o : ρ} (hN : mN 0 = cN ∧ 0 ≤ cN ∧ cN ≤ 14) (hab : 0 ≤ a ∧ a ≤ b ∧ b ≤ 14) (h : zl (fun (s : Int32 × (Nat → Int32)) back => if b ≤ s.1 then K s else zg s.1 14 (zg (wr s.1.toNatClampNeg) 14 (zb (fn_X12_triesGroup (fr (wr s.1.toNatClampNeg).toNatClampNeg) f mN mG s.2) (fun o => back (s.1 + 1, o))))) n (a, t0) = some o) : ∃ (k : Int32) (m : Nat → Int32), K (k, m) = some o ∧ ∀ i : Int32, 0 ≤ i → i < cN → (∀ k : Int32, a ≤ k → k < b → mG i.toNatClampNeg = fr (wr k.toNatClampNeg).toNatClampNeg → m i.toNatClampNeg = f) ∧ ((∀ k : Int32, a ≤ k → k < b → ¬ mG i.toNatClampNeg = fr (wr k.toNatClampNeg).toNatClampNeg) → m i.toNatClampNeg = t0 i.toNatClampNeg) := by
  refine zl_ip (P := fun o : ρ => ∃ (k : Int32) (m : Nat → Int32), K (k, m) = some o ∧ ∀ i : Int32, 0 ≤ i → i < cN → (∀ k : Int32, a ≤ k → k < b → mG i.toNatClampNeg = fr (wr k.toNatClampNeg).toNatClampNeg → m i.toNatClampNeg = f) ∧ ((∀ k : Int32, a ≤ k → k < b → ¬ mG i.toNatClampNeg = fr (wr k.toNatClampNeg).toNatClampNeg) → m i.toNatClampNeg = t0 i.toNatClampNeg)) (fun s => (a ≤ s.1 ∧ s.1 ≤ b) ∧ ∀ i : Int32, 0 ≤ i → i < cN → (∀ k : Int32, a ≤ k → k < s.1 → mG i.toNatClampNeg = fr (wr k.toNatClampNeg).toNatClampNeg → s.2 i.toNatClampNeg = f) ∧ ((∀ k : Int32, a ≤ k → k < s.1 → ¬ mG i.toNatClampNeg = fr (wr k.toNatClampNeg).toNatClampNeg) → s.2 i.toNatClampNeg = t0 i.toNatClampNeg)) ?_ _ _ _ ?_ h
  rotate_left
  · exact ⟨⟨Int32.le_refl a, hab.2.1⟩, fun i i0 i1 => ⟨fun k k0 k1 => absurd k1 (Int32.not_lt.mpr k0), fun _ => rfl⟩⟩
  intro s back o ⟨H1, H2⟩ hb ho
  obtain ⟨k, r⟩ := s
  dsimp only at H1 H2 ho
  by_cases c : b ≤ k
  · rw [if_pos c] at ho
    rw [Int32.le_antisymm H1.2 c] at H2
    exact ⟨k, r, ho, H2⟩
  · rw [if_neg c] at ho
    obtain ⟨-, ho⟩ := zg_s ho
    obtain ⟨-, ho⟩ := zg_s ho
    obtain ⟨t, ht, ho⟩ := zb_s ho
    have tg := zTrG hN ht
    have kb : k < b := Int32.not_le.mp c
    have k1 : (0 ≤ k ∧ k < 100000) ∧ a ≤ k + 1 ∧ k + 1 ≤ b := zNab (Int32.le_trans hab.1 H1.1) H1.1 kb hab.2.2
    refine hb _ _ ?_ ho
    refine ⟨k1.2, fun i i0 i1 => ⟨fun l l0 l1 l2 => ?_, fun w => ?_⟩⟩
    · show t i.toNatClampNeg = f
      rw [tg i i0 i1]
      by_cases q : mG i.toNatClampNeg = fr (wr k.toNatClampNeg).toNatClampNeg
      · rw [if_pos q]
      · rw [if_neg q]
        rcases zlt1 k1.1 l1 with z | z
        · rw [z] at l2; exact absurd l2 q
        · exact (H2 i i0 i1).1 l l0 z l2
    · show t i.toNatClampNeg = t0 i.toNatClampNeg
      rw [tg i i0 i1, if_neg (w k H1.1 (zlt3 k1.1).1)]
      exact (H2 i i0 i1).2 (fun l l0 l1 => w l l0 (zlt2 k1.1 l1))
theorem zKeepsT {cN : Int32} {mN mCst mC m1 m2 : Nat → Int32} {t so : Nat → Int32} {x : Int32 × (Nat → Int32)} (hN : mN 0 = cN ∧ 0 ≤ cN ∧ cN ≤ 14) (h : fn_X12_keepsTried mN t so mCst m1 m2 mC = some x) : fn_X12_costTried mCst mN m1 t m2 mC = some x.1 ∧ ∀ i : Int32, 0 ≤ i → i < cN → x.2 i.toNatClampNeg = t i.toNatClampNeg := by
  unfold fn_X12_keepsTried at h
  rw [zn01.1, hN.1] at h
  obtain ⟨k, m, h, hm⟩ := zCopyK hN.2 h
  try dsimp only at h
  obtain ⟨w, hw, h⟩ := zb_s h
  rw [← Option.some.inj h]
  exact ⟨hw, hm⟩
theorem zCh_r {cN cF : Int32} {gof ch ch' t : Nat → Int32} (C : zCh cN cF gof ch t) (h : ∀ i : Int32, 0 ≤ i → ch' i.toNatClampNeg = ch i.toNatClampNeg) : zCh cN cF gof ch' t := by
  intro i i0 i1
  obtain ⟨⟨a1, a2⟩, c2, c3, c4⟩ := C i i0 i1
  rw [h _ a1]
  exact ⟨⟨a1, a2⟩, c2, c3, c4⟩
/-- the least NUMBER of the k-th GROUP of the row -/
theorem zLdr {cF cc cN inp gc gfr gcl mFn : Int32} {nF nN stp mst prc al made amt op fx jn lets gof gfx gld mF mN mCst mNF mNN mS mM mC mW mO m1 m2 mX mG : Nat → Int32} {mA mB : Nat → Int64} {n k : Int32} {un wr fr : Nat → Int32} (T : zTN cF cc cN inp nF nN stp mst prc al made amt op fx jn lets mF mN mNF mNN mS mM mC mW mCst mO m1 m2 mX mG mA mB) (G : zGp cN gc gfr gcl gof gfx gld fx mG) (L : zFL cN mFn gfx mG fr) (U : zUn gc n gfx un wr) (k0 : 0 ≤ k) (k1 : k < n) : ∃ j : Int32, (0 ≤ j ∧ j < cN) ∧ mG j.toNatClampNeg = j ∧ gof j.toNatClampNeg = un k.toNatClampNeg ∧ fr (wr k.toNatClampNeg).toNatClampNeg = j := by
  have hN := T.2.1
  obtain ⟨u1, u2, u3⟩ := U.2.1 k k0 k1
  obtain ⟨j, j0, j1, j2, j3⟩ := zLead hN.2 G u1.1 u1.2
  refine ⟨j, ⟨j0, j1⟩, j2, by rw [G.1.2.1 j j0 j1, j2, j3], ?_⟩
  have l := L.2 j j0 j1 j2 (by rw [j3]; exact u2)
  have e9 : zFg gfx (zRk mG j.toNatClampNeg).toNatClampNeg = zFk gfx mG j.toNatClampNeg := zFreeC gfx mG j.toNatClampNeg (z14' j0 (Int32.le_trans (Int32.le_of_lt j1) hN.2.2))
  rw [← e9, j3, ← u3] at l
  exact l
set_option maxHeartbeats 8000000 in
theorem zPart {cF cc cN inp gc gfr gcl mFn : Int32} {nF nN stp mst prc al made amt op fx jn lets gof gfx gld rwd mF mN mCst mNF mNN mS mM mC mW mO m1 m2 mX mG mTr : Nat → Int32} {rlo rhi mA mB mLe mGe mEr : Nat → Int64} {mWb : Int64} {a b len f fin n pr ts fa0 rs0 : Int32} {un wr fr row so cd hc : Nat → Int32} {re0 : Nat → Int64} {x : Int32 × Int32 × (Nat → Int32) × Int32 × Int32 × (Nat → Int64) × (Nat → Int32)} {y : Int32 × Int32 × Int32 × Int32 × Int32 × (Nat → Int32) × (Nat → Int32) × (Nat → Int64) × (Nat → Int64) × (Nat → Int64) × (Nat → Int32)} (T : zTN cF cc cN inp nF nN stp mst prc al made amt op fx jn lets mF mN mNF mNN mS mM mC mW mCst mO m1 m2 mX mG mA mB) (G : zGp cN gc gfr gcl gof gfx gld fx mG) (R : zRN cN (-1) 0 op made amt rwd rlo rhi) (L : zFL cN mFn gfx mG fr) (U : zUn gc n gfx un wr) (hab : 0 ≤ a ∧ a ≤ b ∧ b ≤ n) (hl : a + len = b) (hf : 0 ≤ f ∧ f < cF) (C : zCh cN cF gof row so) (hfin : ∀ k : Int32, a ≤ k → k < b → row (un k.toNatClampNeg).toNatClampNeg = fin) (D : zCd gc gfx cd hc) (h1 : fn_X3_changePart a b f fin pr un row cF cc cN made gof prc fa0 rs0 stp op re0 amt rlo rhi mst al cd = some x) (h2 : fn_X12_isBetter a len f (-1) mWb pr ts mN so mTr wr fr mG mO m1 m2 mLe mA mB mGe mS mEr mM mW mCst mC hc = some y) : zPt cN cF gc a b ts gof gfx un cd row x y := by
  have hN := T.2.1
  have gb := zRk_b (G := mG) (p := cN) hN.2.1 hN.2.2
  rw [← G.1.1] at gb
  have gc14 : gc ≤ 14 := Int32.le_trans gb.2 hN.2.2
  have b14 : 0 ≤ a ∧ a ≤ b ∧ b ≤ 14 := ⟨hab.1, hab.2.1, Int32.le_trans hab.2.2 U.1.2⟩
  have kin : ∀ k : Int32, a ≤ k → k < b → 0 ≤ k ∧ k < n := fun k k0 k1 => ⟨Int32.le_trans hab.1 k0, Int32.lt_of_lt_of_le k1 hab.2.2⟩
  have hu : ∀ k : Int32, a ≤ k → k < b → 0 ≤ un k.toNatClampNeg := fun k k0 k1 => (U.2.1 k (kin k k0 k1).1 (kin k k0 k1).2).1.1
  have hr : ∀ k : Int32, a ≤ k → k < b → 0 ≤ wr k.toNatClampNeg := fun k k0 k1 => by
    obtain ⟨u1, u2, u3⟩ := U.2.1 k (kin k k0 k1).1 (kin k k0 k1).2
    rw [u3]
    exact (zct_b32 (b := fun g => decide (gfx g = (-1))) u1.1 (Int32.le_trans (Int32.le_of_lt u1.2) gc14)).1
  unfold fn_X3_changePart at h1
  unfold fn_X12_isBetter at h2
  obtain ⟨r1, hr1, h1⟩ := zb_s h1
  obtain ⟨p, hp, h1⟩ := zb_s h1
  rw [hl, zn01.1, hN.1] at h2
  obtain ⟨k9, t0, h2, ht0⟩ := zCopyK hN.2 h2
  try dsimp only at h2
  obtain ⟨k8, t, h2, ht⟩ := zTryP hN b14 h2
  try dsimp only at h2
  obtain ⟨ps, hps, h2⟩ := zb_s h2
  have S1 := zSetP b14 hu hr1
  -- the same tried
  have C1 : zCh cN cF gof r1 t := by
    intro i i0 i1
    obtain ⟨⟨a1, a2⟩, a3, a4, a5⟩ := C i i0 i1
    have same : ∀ k : Int32, a ≤ k → k < b → (un k.toNatClampNeg = gof i.toNatClampNeg ↔ mG i.toNatClampNeg = fr (wr k.toNatClampNeg).toNatClampNeg) := fun k k0 k1 => by
      obtain ⟨j, jj, j2, j3, j4⟩ := zLdr T G L U (kin k k0 k1).1 (kin k k0 k1).2
      have e := zGp_eq hN.2.2 T.2.2.2.2.2.2.2.2 G ⟨i0, i1⟩ jj
      rw [j3, j2] at e
      rw [j4, ← e]
      exact ⟨fun q => q.symm, fun q => q.symm⟩
    by_cases q : ∃ k : Int32, a ≤ k ∧ k < b ∧ un k.toNatClampNeg = gof i.toNatClampNeg
    · obtain ⟨k, k0, k1, k2⟩ := q
      rw [(S1 _ a1).1 k k0 k1 k2, (ht i i0 i1).1 k k0 k1 ((same k k0 k1).mp k2)]
      exact ⟨⟨a1, a2⟩, rfl, hf.1, hf.2⟩
    · rw [(S1 _ a1).2 (fun k k0 k1 k2 => q ⟨k, k0, k1, k2⟩), (ht i i0 i1).2 (fun k k0 k1 k2 => q ⟨k, k0, k1, (same k k0 k1).mpr k2⟩), ht0 i i0 i1]
      exact ⟨⟨a1, a2⟩, a3, a4, a5⟩
  -- back to what it was
  have bk : ∀ r2 : Nat → Int32, fn_X3_setPart a b fin un r1 = some r2 → ∀ i : Int32, 0 ≤ i → r2 i.toNatClampNeg = row i.toNatClampNeg := by
    intro r2 hr2 i i0
    have S2 := zSetP b14 hu hr2 i i0
    by_cases q : ∃ k : Int32, a ≤ k ∧ k < b ∧ un k.toNatClampNeg = i
    · obtain ⟨k, k0, k1, k2⟩ := q
      rw [S2.1 k k0 k1 k2, ← hfin k k0 k1, k2]
    · rw [S2.2 (fun k k0 k1 k2 => q ⟨k, k0, k1, k2⟩)]
      exact (S1 i i0).2 (fun k k0 k1 k2 => q ⟨k, k0, k1, k2⟩)
  -- where the reference says no
  have no : (y.1 = 0 ∧ y.2.2.2.1 = pr ∧ y.2.2.2.2.1 = ts + 1 ∧ y.2.2.2.2.2.1 = so ∧ y.2.2.2.2.2.2.2.2.2.2 = hc) → (x.1 = 0 ∧ x.2.1 = pr ∧ x.2.2.2.2.2.2 = cd ∧ ∀ i : Int32, 0 ≤ i → x.2.2.1 i.toNatClampNeg = row i.toNatClampNeg) → zPt cN cF gc a b ts gof gfx un cd row x y := by
    intro ⟨y1, y2, y3, y4, y5⟩ ⟨x1, x2, x3, x4⟩
    exact ⟨x1.trans y1.symm, x2.trans y2.symm, y3, by rw [y4]; exact zCh_r C x4, by rw [x3, y5]; exact D, Or.inl ⟨x1, x3, x4⟩⟩
  by_cases c : pr ≤ p
  · rw [if_pos c] at h1
    obtain ⟨r2, hr2, h1⟩ := zb_s h1
    refine no ?_ (by rw [← Option.some.inj h1]; exact ⟨rfl, rfl, rfl, bk r2 hr2⟩)
    by_cases z : ps.1 = 0
    · rw [if_pos z] at h2
      rw [← Option.some.inj h2]
      exact ⟨rfl, rfl, rfl, rfl, rfl⟩
    · rw [if_neg z] at h2
      obtain ⟨w, hw, h2⟩ := zb_s h2
      have ew : p = w := zPriceEq T C1 hp hw
      rw [if_neg (show ¬ w < pr by rw [← ew]; exact Int32.not_lt.mpr c)] at h2
      rw [← Option.some.inj h2]
      exact ⟨rfl, rfl, rfl, rfl, rfl⟩
  · rw [if_neg c] at h1
    obtain ⟨rk, hrk, h1⟩ := zb_s h1
    have pe := zPassEq (wd := rwd) T (zRN_1 R) (Or.inl rfl) C1 hrk hps
    by_cases z : rk.1 = 0
    · rw [if_pos z] at h1
      rw [if_pos (show ps.1 = 0 from pe.1.symm.trans z)] at h2
      obtain ⟨r2, hr2, h1⟩ := zb_s h1
      refine no ?_ (by rw [← Option.some.inj h1]; exact ⟨rfl, rfl, rfl, bk r2 hr2⟩)
      rw [← Option.some.inj h2]
      exact ⟨rfl, rfl, rfl, rfl, rfl⟩
    · rw [if_neg z] at h1
      rw [if_neg (show ¬ ps.1 = 0 from fun q => z (pe.1.trans q))] at h2
      obtain ⟨w, hw, h2⟩ := zb_s h2
      have ew : p = w := zPriceEq T C1 hp hw
      rw [if_pos (show w < pr by rw [← ew]; exact Int32.not_le.mp c)] at h2
      obtain ⟨kt, hkt, h2⟩ := zb_s h2
      obtain ⟨kt1, kt2⟩ := zKeepsT hN hkt
      obtain ⟨k7, cd', h1, hcd⟩ := zMark b14 hu h1
      obtain ⟨k6, hc', h2, hhc⟩ := zMark b14 hr h2
      try dsimp only at h1 h2
      rw [← Option.some.inj h1, ← Option.some.inj h2]
      refine ⟨rfl, ?_, rfl, ?_, ?_, Or.inr ⟨by show ¬ (1 : Int32) = 0; decide, fun g g0 q => ⟨(hcd g g0).2 q, (S1 g g0).2 q⟩, fun k k0 k1 => (hcd _ (hu k k0 k1)).1 k k0 k1 rfl⟩⟩
      · show p = kt.1
        rw [ew]
        exact Option.some.inj (hw.symm.trans kt1)
      · exact zCh_c C1 kt2
      · intro g g0 g1 g2
        show cd' g.toNatClampNeg = 0 ↔ hc' (zFg gfx g.toNatClampNeg).toNatClampNeg = 0
        have f0 : 0 ≤ zFg gfx g.toNatClampNeg := (zct_b32 (b := fun g => decide (gfx g = (-1))) g0 (Int32.le_trans (Int32.le_of_lt g1) gc14)).1
        by_cases q : ∃ k : Int32, a ≤ k ∧ k < b ∧ un k.toNatClampNeg = g
        · obtain ⟨k, k0, k1, k2⟩ := q
          have e1 := (hcd g g0).1 k k0 k1 k2
          have e2 := (hhc _ f0).1 k k0 k1 (by rw [(U.2.1 k (kin k k0 k1).1 (kin k k0 k1).2).2.2, k2])
          exact ⟨fun w => absurd w e1, fun w => absurd w e2⟩
        · rw [(hcd g g0).2 (fun k k0 k1 k2 => q ⟨k, k0, k1, k2⟩), (hhc _ f0).2 (fun k k0 k1 k2 => ?_)]
          · exact D g g0 g1 g2
          · obtain ⟨u1, u2, u3⟩ := U.2.1 k (kin k k0 k1).1 (kin k k0 k1).2
            rw [u3] at k2
            exact q ⟨k, k0, k1, zFg_ne gc14 u1 ⟨g0, g1⟩ u2 g2 k2⟩
