/-! the reference's reading, by the class's next word -/
theorem zFl_0 (p q wa : Int32) : fn_X12_faults p q 0 wa = some (p, q) := by
  unfold fn_X12_faults
  rw [if_pos rfl]
theorem zFl_n {w : Int32} (hw : ¬ w = 0) (p q wa : Int32) : fn_X12_faults p q w wa = some (w, wa) := by
  unfold fn_X12_faults
  rw [if_neg hw]
theorem zGw_n {w : Int32} (hw : ¬ w = 0) : fn_X12_goesWell w = some 0 := by
  unfold fn_X12_goesWell
  rw [if_neg hw]
theorem zGw_0 : fn_X12_goesWell 0 = some 1 := rfl
theorem zl_1 {σ ρ : Type} (B : σ → (σ → Option ρ) → Option ρ) (s : σ) : zl B 100000 s = B s (zl B 99999) := rfl
theorem zTok_b {n a e k s v o : Int32} {f g : Nat → Int32} (ha : 0 ≤ a ∧ a ≤ n) (T : zTok n f g a e k s v o) : 0 ≤ s ∧ s ≤ n ∧ s ≤ e ∧ e ≤ n := by
  obtain ⟨t1, t2, t3, _⟩ := T
  have := zSk_le t1 ha.2
  have := t1.1
  grind
noncomputable def zIsW (n : Int32) (g : Nat → Int32) (a s : Int32) : Prop := zK n g s = 1 ∧ ¬ zJn n g a s
theorem zTok_w {n a e k s v o : Int32} {f g : Nat → Int32} (T : zTok n f g a e k s v o) (h : zIsW n g a s) : zRun n g 1 s e ∧ (k = 1 ∧ e - s ≤ 6 ∧ v.toInt = zCV (zLV g s.toNatClampNeg (zSz s e)) ∧ zOwS v o ∨ k = 4 ∧ 6 < e - s) := by
  obtain ⟨h1, h2⟩ := h
  obtain ⟨_, _, _, T⟩ := T
  rcases T with T | T | T | T | T | T
  · grind
  · grind
  · obtain ⟨t1, t2, t3, t4, t5⟩ := T
    refine ⟨t2, Or.inr ⟨t4, ?_⟩⟩
    rcases t3 with q | q
    · exact absurd q h2
    · exact q
  · obtain ⟨t1, t2, t3, t4, t5, t6, t7⟩ := T
    exact ⟨t2, Or.inl ⟨t5, t4, t6, t7⟩⟩
  · grind
  · grind
theorem zTok_k1 {n a e k s v o : Int32} {f g : Nat → Int32} (T : zTok n f g a e k s v o) (h : k = 1) : zIsW n g a s := by
  obtain ⟨_, _, _, T⟩ := T
  subst h
  rcases T with T | T | T | T | T | T
  · exact absurd T.2.2.1 (by decide)
  · exact absurd T.2.2.1 (by decide)
  · exact absurd T.2.2.2.1 (by decide)
  · exact ⟨T.1, T.2.2.1⟩
  · exact absurd T.2.2.2.1 (by decide)
  · exact absurd T.2.2.2.2.1 (by decide)
/-- what stands ahead of the next word, once this one is passed -/
theorem zTok_nx {n a e k s v o : Int32} {f g : Nat → Int32} (hn : n ≤ 1200) (ha : 0 ≤ a ∧ a ≤ n) (T : zTok n f g a e k s v o) (hk : k = 1 ∨ k = 2 ∨ k = 3) : (0 ≤ e ∧ e ≤ n) ∧ ((k = 1 ∨ k = 2) ↔ (zK n g (e - 1) = 1 ∨ zK n g (e - 1) = 2)) := by
  have hb := zTok_b ha T
  refine ⟨by grind, ?_⟩
  obtain ⟨_, _, _, T⟩ := T
  have hrun : ∀ q : Int32, zK n g s = q → zRun n g q s e → s < e ∧ zK n g (e - 1) = q := by
    intro q q1 ⟨r1, r2, r3⟩
    have : s < e := by
      by_cases c : s = e
      · rw [← c] at r3; exact absurd q1 r3
      · grind
    exact ⟨this, r2 (e - 1) (by grind) (by grind)⟩
  rcases T with T | T | T | T | T | T
  · grind
  · obtain ⟨t1, t2, t3, t4⟩ := T
    rw [show e - 1 = s by grind, t1, t3]
  · grind
  · obtain ⟨t1, t2, t3, t4, t5, _⟩ := T
    have := hrun 1 t1 t2
    exact ⟨fun _ => Or.inl this.2, fun _ => Or.inl t5⟩
  · grind
  · obtain ⟨t1, t2, t3, t4, t5, _⟩ := T
    have := hrun 2 t1 t2
    exact ⟨fun _ => Or.inr this.2, fun _ => Or.inr t5⟩
theorem zWord_n {w : Int32} (hw : ¬ w = 0) (n a bg wa : Int32) (g : Nat → Int32) : fn_X12_word n a bg w wa g = some (a, bg, w, wa) := by
  unfold fn_X12_word
  rw [zGw_n hw, zb_some, if_pos rfl]
theorem zWordM {n a e k s v o bg wa : Int32} {f g : Nat → Int32} (hn : n ≤ 1200) (ha : 0 ≤ a ∧ a ≤ n) (T : zTok n f g a e k s v o) : zw (fn_X12_word n a bg 0 wa g) (fun r => zIsW n g a s ∧ r = (e, s, 0, wa) ∨ ¬ zIsW n g a s ∧ r = (s, s, 1, s)) := by
  have hb := zTok_b ha T
  have hsk := T.1
  unfold fn_X12_word
  simp only [zGw_0, zb_some, zSm_fn hn, zDi_fn hn, zFl_0]
  refine zw_if (fun c => absurd c (by decide)) (fun _ => ?_)
  refine zw_zb0 (zHere hn ha) (fun r hr => ?_)
  obtain ⟨b, s'⟩ := r
  dsimp only at hr ⊢
  obtain rfl : s = s' := zSk_un hsk hr.1
  have hj : zJn n g a s ↔ (zK n g (s - 1) = 1 ∨ zK n g (s - 1) = 2) := by
    unfold zJn
    constructor
    · intro ⟨q1, q2⟩; rw [q1]; exact q2
    · intro q
      by_cases c : s = a
      · exact ⟨c, by rw [← c]; exact q⟩
      · have := hsk.2.1 (s - 1) (by have := hsk.1; grind) (by grind)
        rw [this] at q
        exact absurd q (by decide)
  refine zw_if (fun c => ?_) (fun c => ?_)
  · refine zw_some (Or.inr ⟨fun q => ?_, rfl⟩)
    rw [if_pos q.1] at c
    exact absurd c (by decide)
  have c1 : zK n g s = 1 := by
    by_cases q : zK n g s = 1
    · exact q
    · rw [if_neg q] at c; exact absurd rfl c
  refine zw_if (fun d => ?_) (fun d => ?_)
  · refine zw_if (fun d2 => ?_) (fun d2 => ?_)
    · have hw : zIsW n g a s := by
        refine ⟨c1, fun q => ?_⟩
        rcases hj.mp q with q | q
        · rw [if_pos q] at d; exact absurd d (by decide)
        · rw [if_pos q] at d2; exact absurd d2 (by decide)
      have hrun := (zTok_w T hw).1
      refine zw_zl32 (fun p => s ≤ p ∧ p ≤ n ∧ (∀ i : Int32, s ≤ i → i < p → zK n g i = 1)) (fun p => n - p) ⟨by grind, by grind, fun i h1 h2 => by grind⟩ (by (try dsimp only); grind) (fun p back H h => ?_)
      obtain ⟨H1, H2, H3⟩ := H
      refine zw_if (fun q => ?_) (fun q => ?_)
      · refine zw_some (Or.inl ⟨hw, ?_⟩)
        have : zRun n g 1 s p := ⟨H1, H3, fun q2 => by rw [if_pos q2] at q; exact absurd q (by decide)⟩
        rw [zRun_un this hrun]
      · have q1 : zK n g p = 1 := by
          by_cases q2 : zK n g p = 1
          · exact q2
          · rw [if_neg q2] at q; exact absurd rfl q
        have hin := zK_in (n := n) (g := g) (i := p) (by rw [q1]; decide)
        refine h _ ⟨by grind, by grind, fun i i1 i2 => ?_⟩ (by (try dsimp only); grind) (by (try dsimp only); grind)
        by_cases q2 : i = p
        · rw [q2]; exact q1
        · exact H3 i i1 (by grind)
    · refine zw_some (Or.inr ⟨fun q => q.2 (hj.mpr (Or.inr ?_)), rfl⟩)
      by_cases q2 : zK n g (s - 1) = 2
      · exact q2
      · rw [if_neg q2] at d2; exact absurd rfl d2
  · refine zw_some (Or.inr ⟨fun q => q.2 (hj.mpr (Or.inl ?_)), rfl⟩)
    by_cases q2 : zK n g (s - 1) = 1
    · exact q2
    · rw [if_neg q2] at d; exact absurd rfl d
theorem zMust_n {w : Int32} (hw : ¬ w = 0) (p n a bg wa : Int32) (g tab : Nat → Int32) : fn_X12_must p n a bg w wa g tab = some (a, bg, w, wa) := by
  unfold fn_X12_must
  simp only [zWord_n hw, zb_some, zGw_n hw, if_true]
theorem zMustM {n a e k s v o bg wa w : Int32} {f g tab : Nat → Int32} (hn : n ≤ 1200) (ha : 0 ≤ a ∧ a ≤ n) (T : zTok n f g a e k s v o) (hT : (∀ k : Nat, k < 71 → tab k = zTab k)) (hw : 0 ≤ w) : zw (fn_X12_must w n a bg 0 wa g tab) (fun r => (k = 1 ∧ o = w) ∧ r = (e, s, 0, wa) ∨ ¬ (k = 1 ∧ o = w) ∧ r.2.2.1 = 1 ∧ r.2.2.2 = s) := by
  have hb := zTok_b ha T
  unfold fn_X12_must
  refine zw_zb0 (zWordM hn ha T) (fun r hr => ?_)
  rcases hr with ⟨hw1, rfl⟩ | ⟨hw1, rfl⟩
  · dsimp only
    rw [zGw_0, zb_some, if_neg (by decide)]
    obtain ⟨hrun, hk⟩ := zTok_w T hw1
    refine zw_zb0 (zOwnM (by grind) (by grind) hb.2.2.1 hT (fun i hi => zRun_l hb.1 hb.2.2.1 hb.2.2.2 hn hrun.2.1 i hi)) (fun p hp => ?_)
    obtain ⟨p1, p2, p3, p4⟩ := hp
    refine zw_if (fun c => ?_) (fun c => ?_)
    · refine zw_some (Or.inl ⟨?_, rfl⟩)
      rcases hk with ⟨k1, k2, k3, k4⟩ | ⟨k1, k2⟩
      · exact ⟨k1, by rw [← c]; exact zOwS_un k4 (p4 v k2 k3)⟩
      · have := p3 k2
        grind
    · rw [zFl_0, zb_some]
      refine zw_some (Or.inr ⟨fun q => c ?_, rfl, rfl⟩)
      rcases hk with ⟨k1, k2, k3, k4⟩ | ⟨k1, k2⟩
      · rw [← q.2]; exact zOwS_un (p4 v k2 k3) k4
      · exact absurd (q.1.symm.trans k1) (by decide)
  · dsimp only
    rw [zGw_n (by decide), zb_some, if_pos rfl]
    exact zw_some (Or.inr ⟨fun q => hw1 (zTok_k1 T q.1), rfl, rfl⟩)
/-! names of class and reference: the same letters, the other way round -/
noncomputable def zNm (c m : Int32) : Prop := ∃ l : Nat → Int, (∀ i : Nat, 0 ≤ l i ∧ l i < 32) ∧ c.toInt = zCV l ∧ m.toInt = zMV l
theorem zMV_inj {l m : Nat → Int} (h : zMV l = zMV m) (h1 : ∀ i : Nat, 0 ≤ l i ∧ l i < 32) (h2 : ∀ i : Nat, 0 ≤ m i ∧ m i < 32) : zCV l = zCV m := by
  unfold zMV at h
  unfold zCV
  have a0 := h1 0
  have a1 := h1 1
  have a2 := h1 2
  have a3 := h1 3
  have a4 := h1 4
  have a5 := h1 5
  have b0 := h2 0
  have b1 := h2 1
  have b2 := h2 2
  have b3 := h2 3
  have b4 := h2 4
  have b5 := h2 5
  omega
theorem zNm_eq {c m c' m' : Int32} (h : zNm c m) (h' : zNm c' m') : c = c' ↔ m = m' := by
  obtain ⟨l, l1, l2, l3⟩ := h
  obtain ⟨q, q1, q2, q3⟩ := h'
  constructor
  · intro e
    apply Int32.toInt_inj.mp
    rw [l3, q3]
    have e2 : zCV l = zCV q := by rw [← l2, ← q2, e]
    have hi := zCV_inj e2 l1 q1
    unfold zMV
    rw [hi 0 (by decide), hi 1 (by decide), hi 2 (by decide), hi 3 (by decide), hi 4 (by decide), hi 5 (by decide)]
  · intro e
    apply Int32.toInt_inj.mp
    rw [l2, q2]
    exact zMV_inj (by rw [← l3, ← q3, e]) l1 q1
theorem zName_n {w : Int32} (hw : ¬ w = 0) (n a bg wa : Int32) (g tab : Nat → Int32) : fn_X12_name n a bg w wa g tab = some (0, a, bg, w, wa) := by
  unfold fn_X12_name
  simp only [zWord_n hw, zb_some, zGw_n hw, if_true, zj, zl_1, ite_self]
/-- the reference's name: its letters from the last one on -/
noncomputable def zNL (g : Nat → Int32) (s : Nat) : Nat → Nat → Int
  | _, 0 => 0
  | i, k + 1 => ((g (s + i)).toInt - 96) + 32 * zNL g s (i + 1) k
theorem zNL_M (g : Nat → Int32) (s K : Nat) (hK : K ≤ 6) : zNL g s 0 K = zMV (zLV g s K) := by
  match K, hK with
  | 0, _ => simp [zNL, zMV, zLV]
  | 1, _ => simp [zNL, zMV, zLV]
  | 2, _ => simp [zNL, zMV, zLV]; omega
  | 3, _ => simp [zNL, zMV, zLV]; omega
  | 4, _ => simp [zNL, zMV, zLV]; omega
  | 5, _ => simp [zNL, zMV, zLV]; omega
  | 6, _ => simp [zNL, zMV, zLV]; omega
theorem zNL_b (g : Nat → Int32) (s : Nat) (hl : ∀ i : Nat, i < 6 → 97 ≤ (g (s + i)).toInt ∧ (g (s + i)).toInt ≤ 122) : True := trivial
theorem zNameM {n a e k s v o bg wa : Int32} {f g tab : Nat → Int32} (hn : n ≤ 1200) (ha : 0 ≤ a ∧ a ≤ n) (T : zTok n f g a e k s v o) (hT : (∀ k : Nat, k < 71 → tab k = zTab k)) : zw (fn_X12_name n a bg 0 wa g tab) (fun r => (k = 1 ∧ o = (-1)) ∧ zNm v r.1 ∧ r.2 = (e, s, 0, wa) ∨ ¬ (k = 1 ∧ o = (-1)) ∧ r.1 = 0 ∧ r.2.2.2.1 = 1 ∧ r.2.2.2.2 = s) := by
  have hb := zTok_b ha T
  unfold fn_X12_name
  refine zw_zb0 (zWordM hn ha T) (fun r hr => ?_)
  rcases hr with ⟨hw1, rfl⟩ | ⟨hw1, rfl⟩
  · dsimp only
    rw [zGw_0, zb_some]
    obtain ⟨hrun, hk⟩ := zTok_w T hw1
    refine zw_zj (fun t => t = (0, wa) ∧ k = 1 ∧ o = (-1) ∨ t = (1, s) ∧ ¬ (k = 1 ∧ o = (-1))) (fun t ht => ?_) (fun j_9 hj9 => ?_)
    · rcases ht with ⟨rfl, k1, o1⟩ | ⟨rfl, hno⟩
      · dsimp only
        rcases hk with ⟨_, k2, k3, k4⟩ | ⟨q, _⟩
        · obtain ⟨a1, a2, a3, a4, a5, a6⟩ := zAdN hb.1 hb.2.2.1 (by grind : e ≤ 1200)
          have hK6 : zSz s e ≤ 6 := zcl (e - s) 6 6 (by decide) k2
          have hl : ∀ i : Nat, i < zSz s e → 97 ≤ (g (s.toNatClampNeg + i)).toInt ∧ (g (s.toNatClampNeg + i)).toInt ≤ 122 := fun i hi => zKd1 (zRun_l hb.1 hb.2.2.1 hb.2.2.2 hn hrun.2.1 i hi)
          refine zw_zl32 (fun t => s ≤ t.2 + 1 ∧ t.2 + 1 ≤ e ∧ (-1) ≤ t.2 ∧ t.2 ≤ 1200 ∧ (∀ i : Nat, (i : Int) = t.2.toInt + 1 - s.toInt → t.1.toInt = zNL g s.toNatClampNeg i (zSz s e - i) ∧ 0 ≤ t.1.toInt ∧ t.1.toInt < (32 : Int) ^ (zSz s e - i))) (fun t => t.2 + 1 - s) ?_ ?_ (fun t back H h => ?_)
          · have e1 := zo_sub (x := e) (y := 1) (z := e - 1) rfl rfl zi_1' (by omega)
            refine ⟨by (try dsimp only); grind, by (try dsimp only); grind, by (try dsimp only); grind, by (try dsimp only); grind, fun i hi => ?_⟩
            dsimp only at hi ⊢
            have : i = zSz s e := by
              unfold zSz
              omega
            rw [this, Nat.sub_self]
            exact ⟨zi_0, by decide, by decide⟩
          · dsimp only
            grind
          · obtain ⟨x, p⟩ := t
            dsimp only at H h ⊢
            obtain ⟨H1, H2, H3, H4, H5⟩ := H
            have p1 := Int32.le_iff_toInt_le.mp H3
            have p2 := Int32.le_iff_toInt_le.mp H4
            rw [show (-1 : Int32).toInt = -1 by decide +kernel] at p1
            rw [z1200] at p2
            have e1 := zo_add (x := p) (y := 1) (z := p + 1) rfl rfl zi_1' (by omega)
            have p3 := Int32.le_iff_toInt_le.mp H1
            have p4 := Int32.le_iff_toInt_le.mp H2
            refine zw_if (fun c => ?_) (fun c => ?_)
            · rw [zGw_0, zb_some, if_neg (by decide)]
              refine zw_some (Or.inl ⟨⟨k1, o1⟩, ?_, rfl⟩)
              have c1 := Int32.lt_iff_toInt_lt.mp c
              have := (H5 0 (by omega)).1
              rw [Nat.sub_zero, zNL_M g _ _ hK6] at this
              exact ⟨_, zLV_b hl, k3, this⟩
            · rw [zGw_0, zb_some, if_neg (by decide)]
              have c1 : ¬ p.toInt < s.toInt := fun q => c (Int32.lt_iff_toInt_lt.mpr q)
              refine zw_zg32 1200 (by decide) (by grind) ?_
              obtain ⟨i, hi⟩ : ∃ i : Nat, (i : Int) = p.toInt - s.toInt := ⟨(p.toInt - s.toInt).toNat, by omega⟩
              have hik : i < zSz s e := by unfold zSz; omega
              obtain ⟨q1, q2, q3⟩ := H5 (i + 1) (by omega)
              have hpi : s.toNatClampNeg + i = p.toNatClampNeg := by
                show s.toInt.toNat + i = p.toInt.toNat
                omega
              have hg := hl i hik
              rw [hpi] at hg
              have hpow : (32 : Int) ^ (zSz s e - (i + 1)) ≤ 33554432 := by
                have := Nat.pow_le_pow_right (show 1 ≤ 32 by decide) (show zSz s e - (i + 1) ≤ 5 by omega)
                have h2 : ((32 ^ (zSz s e - (i + 1)) : Nat) : Int) ≤ ((32 ^ 5 : Nat) : Int) := by omega
                rw [Int.natCast_pow] at h2
                exact h2
              have r1 := zo_mul (x := 32) (y := x) (z := 32 * x) rfl (by decide +kernel : (32 : Int32).toInt = 32) rfl (by omega)
              have r2 := zo_add (x := 32 * x) (y := g p.toNatClampNeg) (z := 32 * x + g p.toNatClampNeg) rfl r1 rfl (by omega)
              have r3 := zo_sub (x := 32 * x + g p.toNatClampNeg) (y := 96) (z := 32 * x + g p.toNatClampNeg - 96) rfl r2 (by decide +kernel : (96 : Int32).toInt = 96) (by omega)
              have r4 := zo_add (x := p) (y := -1) (z := p + (-1)) rfl rfl (by decide +kernel : (-1 : Int32).toInt = -1) (by omega)
              refine h _ ⟨by (try dsimp only); grind, by (try dsimp only); grind, by (try dsimp only); grind, by (try dsimp only); grind, fun j hj => ?_⟩ (by (try dsimp only); grind) (by (try dsimp only); grind)
              dsimp only at hj ⊢
              rw [r4] at hj
              have hji : j = i := by
                clear r1 r2 r3 r4 hpow hg q1 q2 q3 hpi hik
                omega
              subst hji
              have hsz : zSz s e - j = zSz s e - (j + 1) + 1 := by omega
              rw [r3, hsz, Int.pow_succ]
              show _ = ((g (s.toNatClampNeg + j)).toInt - 96) + 32 * zNL g s.toNatClampNeg (j + 1) (zSz s e - (j + 1)) ∧ _ ∧ _
              rw [hpi, ← q1]
              omega
        · exact absurd (k1.symm.trans q) (by decide)
      · dsimp only
        rw [zl_1]
        simp only [zGw_n (show ¬ (1 : Int32) = 0 by decide), zb_some, if_true, ite_self]
        exact zw_some (Or.inr ⟨hno, rfl, rfl, rfl⟩)
    · rw [if_neg (by decide)]
      refine zw_zb0 (zOwnM (by grind) (by grind) hb.2.2.1 hT (fun i hi => zRun_l hb.1 hb.2.2.1 hb.2.2.2 hn hrun.2.1 i hi)) (fun p hp => ?_)
      obtain ⟨p1, p2, p3, p4⟩ := hp
      refine zw_zj (fun _ => ¬ (k = 1 ∧ o = (-1))) (fun _ hq => ?_) (fun j_33 hj33 => ?_)
      · rw [zFl_0, zb_some]
        exact hj9 _ (Or.inr ⟨rfl, hq⟩)
      · refine zw_if (fun c => ?_) (fun c => hj33 () (fun q => c ?_))
        · refine zw_if (fun d => ?_) (fun d => hj33 () (fun q => ?_))
          · rcases hk with ⟨k1, k2, k3, k4⟩ | ⟨k1, k2⟩
            · exact hj9 _ (Or.inl ⟨rfl, k1, by rw [← c]; exact zOwS_un k4 (p4 v k2 k3)⟩)
            · grind
          · rcases hk with ⟨k1, k2, k3, k4⟩ | ⟨k1, k2⟩
            · exact d k2
            · exact absurd (q.1.symm.trans k1) (by decide)
        · rcases hk with ⟨k1, k2, k3, k4⟩ | ⟨k1, k2⟩
          · rw [← q.2]; exact zOwS_un (p4 v k2 k3) k4
          · exact absurd (q.1.symm.trans k1) (by decide)
  · dsimp only
    simp only [zGw_n (show ¬ (1 : Int32) = 0 by decide), zb_some, if_true, zj, zl_1, ite_self]
    exact zw_some (Or.inr ⟨fun q => hw1 (zTok_k1 T q.1), rfl, rfl, rfl⟩)
