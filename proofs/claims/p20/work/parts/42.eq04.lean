theorem zMark_n {w : Int32} (hw : ¬ w = 0) (c n a wa : Int32) (g : Nat → Int32) : fn_X12_mark c n a w wa g = some (a, w, wa) := by
  unfold fn_X12_mark
  rw [zGw_n hw, zb_some, if_pos rfl]
/-- a sign stands there just when the class has read it -/
theorem zTok_c {n a e k s v o : Int32} {f g : Nat → Int32} (ht : zTp f g) (ha : 0 ≤ a ∧ a ≤ n) (T : zTok n f g a e k s v o) (c : Int32) (hc : zKd c = 3 ∧ 0 ≤ c ∧ c ≤ 127) : (k = 3 ∧ v = c) ↔ zB n g s = c := by
  have hb := zTok_b ha T
  obtain ⟨_, _, _, T⟩ := T
  have hts := ht s.toNatClampNeg
  constructor
  · intro ⟨k3, vc⟩
    rcases T with T | T | T | T | T | T
    · exact absurd (k3.symm.trans T.2.2.1) (by decide)
    · obtain ⟨t1, t2, t3, t4, t5⟩ := T
      have hin := zK_in (n := n) (g := g) (i := s) (by rw [t1]; decide)
      unfold zB
      rw [if_neg (by grind)]
      grind
    · exact absurd (k3.symm.trans T.2.2.2.1) (by decide)
    · exact absurd (k3.symm.trans T.2.2.2.2.1) (by decide)
    · exact absurd (k3.symm.trans T.2.2.2.1) (by decide)
    · exact absurd (k3.symm.trans T.2.2.2.2.1) (by decide)
  · intro q
    have hin : 0 ≤ s ∧ s < n := by
      unfold zB at q
      by_cases d : s < 0 ∨ n ≤ s
      · rw [if_pos d] at q; grind
      · grind
    have hk : zK n g s = 3 := by
      rw [zK_at hin.1 hin.2]
      unfold zB at q
      rw [if_neg (by grind)] at q
      rw [q]; exact hc.1
    unfold zB at q
    rw [if_neg (by grind)] at q
    rcases T with T | T | T | T | T | T
    · exact absurd (hk.symm.trans T.1) (by decide)
    · obtain ⟨t1, t2, t3, t4, t5⟩ := T
      exact ⟨t3, by rw [t4]; grind⟩
    · exact absurd (hk.symm.trans T.1) (by decide)
    · exact absurd (hk.symm.trans T.1) (by decide)
    · exact absurd (hk.symm.trans T.1) (by decide)
    · exact absurd (hk.symm.trans T.1) (by decide)
theorem zTok_3 {n a e k s v o : Int32} {f g : Nat → Int32} (T : zTok n f g a e k s v o) (h : k = 3) : e = s + 1 := by
  obtain ⟨_, _, _, T⟩ := T
  rcases T with T | T | T | T | T | T
  · exact absurd (h.symm.trans T.2.2.1) (by decide)
  · exact T.2.1
  · exact absurd (h.symm.trans T.2.2.2.1) (by decide)
  · exact absurd (h.symm.trans T.2.2.2.2.1) (by decide)
  · exact absurd (h.symm.trans T.2.2.2.1) (by decide)
  · exact absurd (h.symm.trans T.2.2.2.2.1) (by decide)
theorem zMarkM {n a e k s v o wa c : Int32} {f g : Nat → Int32} (hn : n ≤ 1200) (ht : zTp f g) (ha : 0 ≤ a ∧ a ≤ n) (T : zTok n f g a e k s v o) (hc : zKd c = 3 ∧ 0 ≤ c ∧ c ≤ 127) : zw (fn_X12_mark c n a 0 wa g) (fun r => (k = 3 ∧ v = c) ∧ r = (e, 0, wa) ∨ ¬ (k = 3 ∧ v = c) ∧ r.2.1 = 1 ∧ r.2.2 = s) := by
  have hcc := zTok_c ht ha T c hc
  unfold fn_X12_mark
  rw [zGw_0, zb_some, if_neg (by decide)]
  refine zw_zb0 (zHere hn ha) (fun r hr => ?_)
  obtain ⟨b, s'⟩ := r
  dsimp only at hr ⊢
  obtain ⟨h1, h2⟩ := hr
  obtain rfl : s = s' := zSk_un T.1 h1
  refine zw_if (fun d => ?_) (fun d => ?_)
  · have q := hcc.mpr (by rw [← h2]; exact d)
    exact zw_some (Or.inl ⟨q, by rw [zTok_3 T q.1]⟩)
  · rw [zFl_0, zb_some]
    exact zw_some (Or.inr ⟨fun q => d (by rw [h2]; exact hcc.mp q), rfl, rfl⟩)
theorem zDig_n {w : Int32} (hw : ¬ w = 0) (n a bg wa : Int32) (g : Nat → Int32) : fn_X12_digits n a bg w wa g = some (0, a, bg, w, wa) := by
  unfold fn_X12_digits
  rw [zGw_n hw, zb_some, if_pos rfl]
theorem z64_of {x : Int64} {v : Int32} (h : x.toInt = v.toInt) : x = v.toInt64 := by
  apply Int64.toInt_inj.mp
  rw [z64_i, h]
set_option maxHeartbeats 1000000 in
theorem zDigM {n a e k s v o bg wa : Int32} {f g : Nat → Int32} (hn : n ≤ 1200) (ha : 0 ≤ a ∧ a ≤ n) (T : zTok n f g a e k s v o) : zw (fn_X12_digits n a bg 0 wa g) (fun r => k = 2 ∧ 0 ≤ v ∧ v ≤ 99999999 ∧ r = (v.toInt64, e, s, 0, wa) ∨ ¬ k = 2 ∧ r.1 = 0 ∧ r.2.2.2.1 = 1 ∧ r.2.2.2.2 = s) := by
  have hb := zTok_b ha T
  have hsk := T.1
  unfold fn_X12_digits
  simp only [zGw_0, zb_some, zSm_fn hn, zDi_fn hn, zFl_0, zB_fn hn]
  refine zw_if (fun c => absurd c (by decide)) (fun _ => ?_)
  refine zw_zb0 (zHere hn ha) (fun r hr => ?_)
  obtain ⟨b, s'⟩ := r
  dsimp only at hr ⊢
  obtain rfl : s = s' := zSk_un hsk hr.1
  have hj : zJn n g a s ↔ (zK n g (s - 1) = 1 ∨ zK n g (s - 1) = 2) := by
    unfold zJn
    constructor
    · intro ⟨q1, q2⟩; rw [q1]; exact q2
    · intro q
      by_cases c : s = a
      · exact ⟨c, by rw [← c]; exact q⟩
      · have := hsk.2.1 (s - 1) (by have := hsk.1; grind) (by grind)
        rw [this] at q
        exact absurd q (by decide)
  obtain ⟨_, _, _, TT⟩ := T
  have hk2 : k = 2 → zK n g s = 2 ∧ ¬ zJn n g a s := by
    intro q
    rcases TT with T | T | T | T | T | T
    · exact absurd (q.symm.trans T.2.2.1) (by decide)
    · exact absurd (q.symm.trans T.2.2.1) (by decide)
    · exact absurd (q.symm.trans T.2.2.2.1) (by decide)
    · exact absurd (q.symm.trans T.2.2.2.2.1) (by decide)
    · exact absurd (q.symm.trans T.2.2.2.1) (by decide)
    · exact ⟨T.1, T.2.2.1⟩
  refine zw_if (fun c => ?_) (fun c => ?_)
  · refine zw_some (Or.inr ⟨fun q => ?_, rfl, rfl, rfl⟩)
    rw [if_pos (hk2 q).1] at c
    exact absurd c (by decide)
  have c1 : zK n g s = 2 := by
    by_cases q : zK n g s = 2
    · exact q
    · rw [if_neg q] at c; exact absurd rfl c
  refine zw_if (fun d => ?_) (fun d => ?_)
  · refine zw_if (fun d2 => ?_) (fun d2 => ?_)
    · have hnj : ¬ zJn n g a s := by
        intro q
        rcases hj.mp q with q | q
        · rw [if_pos q] at d; exact absurd d (by decide)
        · rw [if_pos q] at d2; exact absurd d2 (by decide)
      have hrun : zRun n g 2 s e ∧ (k = 2 ∧ e - s ≤ 8 ∧ v.toInt = zDV g s.toNatClampNeg (zSz s e) ∨ ¬ k = 2 ∧ 8 < e - s) := by
        rcases TT with T | T | T | T | T | T
        · exact absurd (c1.symm.trans T.1) (by decide)
        · exact absurd (c1.symm.trans T.1) (by decide)
        · exact absurd (c1.symm.trans T.1) (by decide)
        · exact absurd (c1.symm.trans T.1) (by decide)
        · refine ⟨T.2.1, Or.inr ⟨by rw [T.2.2.2.1]; decide, ?_⟩⟩
          rcases T.2.2.1 with q | q
          · exact absurd q hnj
          · exact q
        · exact ⟨T.2.1, Or.inl ⟨T.2.2.2.2.1, T.2.2.2.1, T.2.2.2.2.2.1⟩⟩
      refine zw_zl32 (fun t => s ≤ t.2 ∧ t.2 ≤ n ∧ (∀ i : Int32, s ≤ i → i < t.2 → zK n g i = 2) ∧ (t.2 - s ≤ 8 → t.1.toInt = zDV g s.toNatClampNeg (zSz s t.2))) (fun t => n - t.2) ?_ (by (try dsimp only); grind) (fun t back H h => ?_)
      · refine ⟨by (try dsimp only); grind, by (try dsimp only); grind, fun i h1 h2 => by dsimp only at h2; grind, fun _ => ?_⟩
        dsimp only
        unfold zSz
        rw [show s - s = 0 by grind, zn01.1]
        rfl
      obtain ⟨x, p⟩ := t
      dsimp only at H h ⊢
      obtain ⟨H1, H2, H3, H4⟩ := H
      obtain ⟨a1, a2, a3, a4, a5, a6⟩ := zAdN hb.1 H1 (by grind : p ≤ 1200)
      refine zw_if (fun q => ?_) (fun q => ?_)
      · have hp : zRun n g 2 s p := ⟨H1, H3, fun q2 => by rw [if_pos q2] at q; exact absurd q (by decide)⟩
        obtain rfl := zRun_un hp hrun.1
        refine zw_if (fun d3 => ?_) (fun d3 => ?_)
        · refine zw_if (fun q3 => absurd q3 (by decide)) (fun _ => ?_)
          rcases hrun.2 with ⟨k2, k8, kv⟩ | ⟨k2, k8⟩
          · have hbd := zDV_b (g := g) (s := s.toNatClampNeg) (zSz s p) (fun i hi => zKd2 (zRun_l hb.1 H1 H2 hn H3 i hi))
            have h8 : zSz s p ≤ 8 := zcl (p - s) 8 8 (by decide) k8
            have hp8 := zp10 h8
            rw [show (10 : Int) ^ 8 = 100000000 by decide] at hp8
            refine zw_some (Or.inl ⟨k2, ?_, ?_, ?_⟩)
            · apply Int32.le_iff_toInt_le.mpr
              rw [zi_0]; omega
            · apply Int32.le_iff_toInt_le.mpr
              rw [show (99999999 : Int32).toInt = 99999999 by decide +kernel]; omega
            · rw [z64_of ((H4 d3).trans kv.symm)]
          · grind
        · rw [zGw_n (show ¬ (1 : Int32) = 0 by decide), zb_some]
          refine zw_if (fun _ => ?_) (fun q3 => absurd rfl q3)
          refine zw_some (Or.inr ⟨fun q2 => ?_, rfl, rfl, rfl⟩)
          rcases hrun.2 with ⟨k2, k8, kv⟩ | ⟨k2, k8⟩
          · exact d3 k8
          · exact k2 q2
      · have q1 : zK n g p = 2 := by
          by_cases q2 : zK n g p = 2
          · exact q2
          · rw [if_neg q2] at q; exact absurd rfl q
        have hin := zK_in (n := n) (g := g) (i := p) (by rw [q1]; decide)
        have hall : ∀ i : Int32, s ≤ i → i < p + 1 → zK n g i = 2 := by
          intro i i1 i2
          by_cases q2 : i = p
          · rw [q2]; exact q1
          · exact H3 i i1 (by grind)
        refine zw_if (fun d3 => ?_) (fun d3 => ?_)
        · exact h _ ⟨by (try dsimp only); grind, by (try dsimp only); grind, hall, fun q2 => absurd q2 (by (try dsimp only); grind)⟩ (by (try dsimp only); grind) (by (try dsimp only); grind)
        · refine h _ ⟨by (try dsimp only); grind, by (try dsimp only); grind, hall, fun _ => ?_⟩ (by (try dsimp only); grind) (by (try dsimp only); grind)
          dsimp only
          have hz : zSz s (p + 1) = zSz s p + 1 := by
            unfold zSz
            rw [show p + 1 - s = p - s + 1 by grind]
            exact zNx (by grind) (by grind)
          have h7 : zSz s p ≤ 7 := zcl (p - s) 7 7 (by decide) (by grind)
          have hbd := zDV_b (g := g) (s := s.toNatClampNeg) (zSz s p) (fun i hi => zKd2 (zRun_l hb.1 H1 H2 hn H3 i hi))
          have hp7 := zp10 h7
          rw [show (10 : Int) ^ 7 = 10000000 by decide] at hp7
          have hx := H4 (by grind)
          have hgp : zB n g p = g p.toNatClampNeg := by
            unfold zB
            rw [if_neg (by grind)]
          have hgb := zKd2 (c := g p.toNatClampNeg) (by rw [← zK_at (n := n) hin.1 hin.2]; exact q1)
          rw [hgp, hz]
          show _ = zDV g s.toNatClampNeg (zSz s p) * 10 + ((g (s.toNatClampNeg + zSz s p)).toInt - 48)
          rw [show s.toNatClampNeg + zSz s p = p.toNatClampNeg from a1]
          have e1 : ((10 : Int64) * x).toInt = 10 * x.toInt := by
            rw [Int64.toInt_mul, show (10 : Int64).toInt = 10 by decide +kernel, Int.bmod_def]
            split <;> omega
          have e2 : ((10 : Int64) * x + (g p.toNatClampNeg).toInt64).toInt = 10 * x.toInt + (g p.toNatClampNeg).toInt := by
            rw [Int64.toInt_add, e1, z64_i, Int.bmod_def]
            split <;> omega
          have e3 : ((10 : Int64) * x + (g p.toNatClampNeg).toInt64 - (48 : Int64)).toInt = 10 * x.toInt + (g p.toNatClampNeg).toInt - 48 := by
            rw [Int64.toInt_sub, e2, show (48 : Int64).toInt = 48 by decide +kernel, Int.bmod_def]
            split <;> omega
          rw [e3, hx]
          omega
    · refine zw_some (Or.inr ⟨fun q => (hk2 q).2 (hj.mpr (Or.inr ?_)), rfl, rfl, rfl⟩)
      by_cases q2 : zK n g (s - 1) = 2
      · exact q2
      · rw [if_neg q2] at d2; exact absurd rfl d2
  · refine zw_some (Or.inr ⟨fun q => (hk2 q).2 (hj.mpr (Or.inl ?_)), rfl, rfl, rfl⟩)
    by_cases q2 : zK n g (s - 1) = 1
    · exact q2
    · rw [if_neg q2] at d; exact absurd rfl d
theorem zIsIn (x lo hi : Int64) : fn_X12_isIn x lo hi = some (if lo ≤ x ∧ x ≤ hi then 1 else 0) := by
  unfold fn_X12_isIn
  by_cases c : lo ≤ x
  · rw [if_neg (fun q => absurd ((lg_cmp_lt _ _).mp q) (by grind))]
    by_cases d : x ≤ hi
    · rw [if_neg (fun q => absurd ((lg_cmp_gt _ _).mp q) (by grind)), if_pos ⟨c, d⟩]
    · rw [if_pos ((lg_cmp_gt _ _).mpr (by grind)), if_neg (fun q => d q.2)]
  · rw [if_pos ((lg_cmp_lt _ _).mpr (by grind)), if_neg (fun q => c q.1)]
theorem zNum_n {w : Int32} (hw : ¬ w = 0) (lo hi : Int64) (n a bg wa : Int32) (g : Nat → Int32) : fn_X12_number lo hi n a bg w wa g = some (0, a, bg, w, wa) := by
  unfold fn_X12_number
  simp only [zDig_n hw, zb_some, zGw_n hw, if_true]
theorem zNumM {n a e k s v o bg wa : Int32} {f g : Nat → Int32} (lo hi : Int64) (hn : n ≤ 1200) (ha : 0 ≤ a ∧ a ≤ n) (T : zTok n f g a e k s v o) : zw (fn_X12_number lo hi n a bg 0 wa g) (fun r => k = 2 ∧ (lo ≤ v.toInt64 ∧ v.toInt64 ≤ hi) ∧ 0 ≤ v ∧ v ≤ 99999999 ∧ r = (v.toInt64, e, s, 0, wa) ∨ k = 2 ∧ ¬ (lo ≤ v.toInt64 ∧ v.toInt64 ≤ hi) ∧ r.2.2.2.1 = 2 ∧ r.2.2.2.2 = s ∨ ¬ k = 2 ∧ r.2.2.2.1 = 1 ∧ r.2.2.2.2 = s) := by
  unfold fn_X12_number
  refine zw_zb0 (zDigM hn ha T) (fun r hr => ?_)
  rcases hr with ⟨k2, v0, v1, rfl⟩ | ⟨k2, r1, r2, r3⟩
  · dsimp only
    simp only [zGw_0, zb_some, zIsIn, zFl_0]
    refine zw_if (fun q => absurd q (by decide)) (fun _ => ?_)
    refine zw_if (fun q => ?_) (fun q => ?_)
    · have hno : ¬ (lo ≤ v.toInt64 ∧ v.toInt64 ≤ hi) := by
        intro q2
        rw [if_pos q2] at q
        exact absurd q (by decide)
      rw [zGw_n (by decide), zb_some, if_pos rfl]
      exact zw_some (Or.inr (Or.inl ⟨k2, hno, rfl, rfl⟩))
    · have hyes : lo ≤ v.toInt64 ∧ v.toInt64 ≤ hi := by
        by_cases q2 : lo ≤ v.toInt64 ∧ v.toInt64 ≤ hi
        · exact q2
        · rw [if_neg q2] at q; exact absurd rfl q
      refine zw_if (fun q => absurd q (by decide)) (fun _ => ?_)
      exact zw_some (Or.inl ⟨k2, hyes, v0, v1, rfl⟩)
  · obtain ⟨x1, x2, x3, x4, x5⟩ := r
    dsimp only at r1 r2 r3 ⊢
    subst r2
    simp only [zGw_n (show ¬ (1 : Int32) = 0 by decide), zb_some, if_true]
    exact zw_some (Or.inr (Or.inr ⟨k2, rfl, r3⟩))
/-! the class's reading -/
theorem zAdvN {n a e k s v o : Int32} {f g own : Nat → Int32} (hn : n ≤ 1200) (ha : 0 ≤ a ∧ a ≤ n) (ht : zTp f g) (ho : ∀ w : Nat, w < 13 → own w = zOwT w) (T : zTok n f g a e k s v o) (hk : k = 1 ∨ k = 2 ∨ k = 3) : zw (fn_X10_advance n e k f own) (fun r => zTok n f g e r.1 r.2.1 r.2.2.1 r.2.2.2.1 r.2.2.2.2) :=
  zAdv hn (zTok_nx hn ha T hk).1 ht ho (zTok_nx hn ha T hk).2
theorem zIsSign (c k v : Int32) : fn_X10_isSign c k v = some (if k = 3 ∧ v = c then 1 else 0) := by
  unfold fn_X10_isSign
  grind
theorem zIsOwn (w k o : Int32) : fn_X10_isOwn w k o = some (if k = 1 ∧ o = w then 1 else 0) := by
  unfold fn_X10_isOwn
  grind
theorem zIsName (k o : Int32) : fn_X10_isName k o = some (if k = 1 ∧ o = (-1) then 1 else 0) := by
  unfold fn_X10_isName
  grind
theorem zIf1 {c : Prop} [Decidable c] (h : ¬ (if c then (1 : Int32) else 0) = 0) : c := by
  by_cases q : c
  · exact q
  · rw [if_neg q] at h; exact absurd rfl h
theorem zIf0 {c : Prop} [Decidable c] (h : (if c then (1 : Int32) else 0) = 0) : ¬ c := by
  intro q
  rw [if_pos q] at h
  exact absurd h (by decide)
/-- a word that the class has read: what comes next -/
noncomputable def zNext (n : Int32) (f g : Nat → Int32) (a : Int32) (r : Int32 × Int32 × Int32 × Int32 × Int32) : Prop := (0 ≤ a ∧ a ≤ n) ∧ zTok n f g a r.1 r.2.1 r.2.2.1 r.2.2.2.1 r.2.2.2.2
theorem zRSign {n a e k s v o c fk fp : Int32} {f g own : Nat → Int32} (hn : n ≤ 1200) (ha : 0 ≤ a ∧ a ≤ n) (ht : zTp f g) (ho : ∀ w : Nat, w < 13 → own w = zOwT w) (T : zTok n f g a e k s v o) : zw (fn_X5_readSign c fk fp n e k s v o f own) (fun r => (k = 3 ∧ v = c) ∧ (∃ x, r = (1, fk, fp, x) ∧ zNext n f g e x) ∨ ¬ (k = 3 ∧ v = c) ∧ r = (0, 1, s, e, k, s, v, o)) := by
  unfold fn_X5_readSign
  simp only [zIsSign, zb_some]
  refine zw_if (fun c => ?_) (fun c => ?_)
  · exact zw_some (Or.inr ⟨zIf0 c, rfl⟩)
  have c := zIf1 c
  refine zw_zb0 (zAdvN hn ha ht ho T (Or.inr (Or.inr c.1))) (fun r hr => ?_)
  exact zw_some (Or.inl ⟨c, r, rfl, (zTok_nx hn ha T (Or.inr (Or.inr c.1))).1, hr⟩)
theorem zROwn {n a e k s v o w fk fp : Int32} {f g own : Nat → Int32} (hn : n ≤ 1200) (ha : 0 ≤ a ∧ a ≤ n) (ht : zTp f g) (ho : ∀ w : Nat, w < 13 → own w = zOwT w) (T : zTok n f g a e k s v o) : zw (fn_X5_readOwn w fk fp n e k s v o f own) (fun r => (k = 1 ∧ o = w) ∧ (∃ x, r = (1, fk, fp, x) ∧ zNext n f g e x) ∨ ¬ (k = 1 ∧ o = w) ∧ r = (0, 1, s, e, k, s, v, o)) := by
  unfold fn_X5_readOwn
  simp only [zIsOwn, zb_some]
  refine zw_if (fun c => ?_) (fun c => ?_)
  · exact zw_some (Or.inr ⟨zIf0 c, rfl⟩)
  have c := zIf1 c
  refine zw_zb0 (zAdvN hn ha ht ho T (Or.inl c.1)) (fun r hr => ?_)
  exact zw_some (Or.inl ⟨c, r, rfl, (zTok_nx hn ha T (Or.inl c.1)).1, hr⟩)
/-- a number without a sign -/
theorem zRVal0 {n a e k s v o lo hi got fk fp : Int32} {f g own : Nat → Int32} (hn : n ≤ 1200) (ha : 0 ≤ a ∧ a ≤ n) (ht : zTp f g) (ho : ∀ w : Nat, w < 13 → own w = zOwT w) (T : zTok n f g a e k s v o) : zw (fn_X5_readValue 0 lo hi got fk fp n e k s v o f own) (fun r => k = 2 ∧ (lo ≤ v ∧ v ≤ hi) ∧ (∃ x, r = (1, v, fk, fp, x) ∧ zNext n f g e x) ∨ k = 2 ∧ ¬ (lo ≤ v ∧ v ≤ hi) ∧ r = (0, got, 2, s, e, k, s, v, o) ∨ ¬ k = 2 ∧ r = (0, got, 1, s, e, k, s, v, o)) := by
  unfold fn_X5_readValue
  simp only [fn_X5_stopAt, zb_some]
  refine zw_zj (fun t => t = 0) (fun t ht1 => ?_) (fun j_1 hj1 => ?_)
  · subst ht1
    refine zw_zj (fun t => t = (e, k, s, v, o)) (fun t ht2 => ?_) (fun j_2 hj2 => ?_)
    · subst ht2
      dsimp only
      refine zw_if (fun c => ?_) (fun c => ?_)
      · refine zw_zj (fun t => t = v) (fun t ht3 => ?_) (fun j_4 hj4 => ?_)
        · subst ht3
          refine zw_if (fun d => ?_) (fun d => ?_)
          · exact zw_some (Or.inr (Or.inl ⟨c, by grind, rfl⟩))
          refine zw_if (fun d2 => ?_) (fun d2 => ?_)
          · refine zw_zb0 (zAdvN hn ha ht ho T (Or.inr (Or.inl c))) (fun r hr => ?_)
            exact zw_some (Or.inl ⟨c, by grind, r, rfl, (zTok_nx hn ha T (Or.inr (Or.inl c))).1, hr⟩)
          · exact zw_some (Or.inr (Or.inl ⟨c, by grind, rfl⟩))
        · refine zw_if (fun _ => hj4 _ rfl) (fun q => absurd rfl q)
      · exact zw_some (Or.inr (Or.inr ⟨c, rfl⟩))
    · refine zw_if (fun _ => hj2 _ rfl) (fun q => absurd rfl q)
  · refine zw_zj (fun _ => True) (fun _ _ => hj1 0 rfl) (fun j_29 hj29 => ?_)
    exact zw_if (fun _ => hj29 () trivial) (fun q => absurd trivial q)
theorem zTok_s {n a e k s v o : Int32} {f g : Nat → Int32} (T : zTok n f g a e k s v o) : zTok n f g s e k s v o := by
  have hsk := T.1
  have hj : zJn n g s s = zJn n g a s := by
    apply propext
    unfold zJn
    constructor
    · intro ⟨_, q⟩
      by_cases c : s = a
      · exact ⟨c, by rw [← c]; exact q⟩
      · have h1 := hsk.1
        have := hsk.2.1 (s - 1)
        by_cases d : a ≤ s - 1 ∧ s - 1 < s
        · rw [this d.1 d.2] at q
          exact absurd q (by decide)
        · exfalso
          apply d
          constructor <;> grind
    · intro ⟨q1, q2⟩
      exact ⟨rfl, by rw [q1]; exact q2⟩
  unfold zTok at T ⊢
  rw [hj]
  exact ⟨⟨Int32.le_refl _, fun i h1 h2 => by grind, hsk.2.2⟩, T.2⟩
/-- both have stopped, with one fault -/
noncomputable def zStop (ok fk fp w wa : Int32) : Prop := ok = 0 ∧ ¬ w = 0 ∧ fk = w ∧ fp = wa
/-- a number that may have a minus: class and reference side by side -/
noncomputable def zVR (n : Int32) (f g : Nat → Int32) (lq lo hi s fk fp wa : Int32) (r : Int32 × Int32 × Int32 × Int32 × Int32 × Int32 × Int32 × Int32 × Int32) (q : Int64 × Int32 × Int32 × Int32 × Int32) : Prop :=
  (∃ x y z, r = (1, x, fk, fp, y) ∧ q = (x.toInt64, z, s, 0, wa) ∧ lo ≤ x ∧ x ≤ hi ∧ zNext n f g z y) ∨ zStop r.1 r.2.2.1 r.2.2.2.1 q.2.2.2.1 q.2.2.2.2 ∨ (r.1 = 0 ∧ r.2.2.1 = 2 ∧ r.2.2.2.1 = s ∧ ∃ x z, q = (x.toInt64, z, s, 0, wa) ∧ lq ≤ x ∧ x < lo)
theorem zSig_n {w : Int32} (hw : ¬ w = 0) (lo hi : Int64) (n a bg wa : Int32) (g : Nat → Int32) : fn_X12_signed lo hi n a bg w wa g = some (0, a, bg, w, wa) := by
  unfold fn_X12_signed
  rw [zGw_n hw, zb_some, if_pos rfl]
theorem zNeg64 {v : Int32} (h0 : 0 ≤ v) (h1 : v ≤ 99999999) : -v.toInt64 = (-v).toInt64 := by
  have a0 := Int32.le_iff_toInt_le.mp h0
  have a1 := Int32.le_iff_toInt_le.mp h1
  rw [zi_0] at a0
  rw [show (99999999 : Int32).toInt = 99999999 by decide +kernel] at a1
  apply Int64.toInt_inj.mp
  rw [z64_i, Int64.toInt_neg, Int32.toInt_neg, z64_i, Int.bmod_def, Int.bmod_def]
  split <;> split <;> omega
set_option maxHeartbeats 1000000 in
theorem zRVal1 {n a e k s v o lq lo hi got fk fp bg wa : Int32} {f g own : Nat → Int32} (hn : n ≤ 1200) (ha : 0 ≤ a ∧ a ≤ n) (ht : zTp f g) (ho : ∀ w : Nat, w < 13 → own w = zOwT w) (T : zTok n f g a e k s v o) (hll : lq ≤ lo) : zw (fn_X5_readValue 1 lo hi got fk fp n e k s v o f own) (fun r => zw (fn_X12_signed lq.toInt64 hi.toInt64 n a bg 0 wa g) (fun q => zVR n f g lq lo hi s fk fp wa r q)) := by
  have hcc := zTok_c ht ha T 45 (by decide +kernel)
  have hsg : ∀ P : Int64 × Int32 × Int32 × Int32 × Int32 → Prop, (∀ (a2 : Int32) (m : Int32), (m = 0 ∧ a2 = s ∧ ¬ (k = 3 ∧ v = 45) ∨ m = 1 ∧ a2 = e ∧ (k = 3 ∧ v = 45)) → zw (zb (fn_X12_digits n a2 bg 0 wa g) (fun o_12 => (zj (fun (s_16 : Int64) => (zb (fn_X12_goesWell o_12.2.2.2.1) (fun o_17 => (zj (fun (s_21 : Int32 × Int32) => (zb (fn_X12_goesWell s_21.1) (fun o_22 => (if o_22 = 0 then (some ((0 : Int64), o_12.2.1, s, s_21.1, s_21.2)) else (some (s_16, o_12.2.1, s, s_21.1, s_21.2)))))) (fun j_21 => (if o_17 = 0 then (j_21 (o_12.2.2.2.1, o_12.2.2.2.2)) else (zb (fn_X12_isIn s_16 lq.toInt64 hi.toInt64) (fun o_28 => (if o_28 = 0 then (zb (fn_X12_faults 2 s o_12.2.2.2.1 o_12.2.2.2.2) (fun o_33 => (j_21 (o_33.1, o_33.2)))) else (j_21 (o_12.2.2.2.1, o_12.2.2.2.2))))))))))) (fun j_16 => (if m = 0 then (j_16 o_12.1) else (j_16 (-o_12.1))))))) P) → zw (fn_X12_signed lq.toInt64 hi.toInt64 n a bg 0 wa g) P := by
    intro P hP
    unfold fn_X12_signed
    rw [zGw_0, zb_some, if_neg (by decide)]
    refine zw_zb0 (zHere hn ha) (fun r hr => ?_)
    obtain ⟨b, s'⟩ := r
    dsimp only at hr ⊢
    obtain ⟨h1, h2⟩ := hr
    obtain rfl : s = s' := zSk_un T.1 h1
    refine zw_zj (fun m => m = 0 ∧ ¬ (k = 3 ∧ v = 45) ∨ m = 1 ∧ (k = 3 ∧ v = 45)) (fun m hm => ?_) (fun j_10 hj10 => ?_)
    · refine zw_zj (fun a2 => m = 0 ∧ a2 = s ∧ ¬ (k = 3 ∧ v = 45) ∨ m = 1 ∧ a2 = e ∧ (k = 3 ∧ v = 45)) (fun a2 ha2 => hP a2 m ha2) (fun j_11 hj11 => ?_)
      rcases hm with ⟨rfl, hm⟩ | ⟨rfl, hm⟩
      · exact zw_if (fun _ => hj11 _ (Or.inl ⟨rfl, rfl, hm⟩)) (fun q => absurd rfl q)
      · exact zw_if (fun q => absurd q (by decide)) (fun _ => hj11 _ (Or.inr ⟨rfl, (zTok_3 T hm.1).symm, hm⟩))
    · refine zw_if (fun q => hj10 1 (Or.inr ⟨rfl, hcc.mpr (by rw [← h2]; exact q)⟩)) (fun q => hj10 0 (Or.inl ⟨rfl, fun q2 => q (by rw [h2]; exact hcc.mp q2)⟩))
  -- what the reference does with its digits
  have hdg : ∀ (a2 m e2 k2 s2 v2 o2 : Int32) (r : Int32 × Int32 × Int32 × Int32 × Int32 × Int32 × Int32 × Int32 × Int32), (0 ≤ a2 ∧ a2 ≤ n) → zTok n f g a2 e2 k2 s2 v2 o2 →
      (k2 = 2 → (lo ≤ (if m = 0 then v2 else -v2) ∧ (if m = 0 then v2 else -v2) ≤ hi) → ∃ y, r = (1, (if m = 0 then v2 else -v2), fk, fp, y) ∧ zNext n f g e2 y) →
      (k2 = 2 → ¬ (lo ≤ (if m = 0 then v2 else -v2) ∧ (if m = 0 then v2 else -v2) ≤ hi) → r.1 = 0 ∧ r.2.2.1 = 2 ∧ r.2.2.2.1 = s) → (¬ k2 = 2 → r.1 = 0 ∧ r.2.2.1 = 1 ∧ r.2.2.2.1 = s2) →
      zw (zb (fn_X12_digits n a2 bg 0 wa g) (fun o_12 => (zj (fun (s_16 : Int64) => (zb (fn_X12_goesWell o_12.2.2.2.1) (fun o_17 => (zj (fun (s_21 : Int32 × Int32) => (zb (fn_X12_goesWell s_21.1) (fun o_22 => (if o_22 = 0 then (some ((0 : Int64), o_12.2.1, s, s_21.1, s_21.2)) else (some (s_16, o_12.2.1, s, s_21.1, s_21.2)))))) (fun j_21 => (if o_17 = 0 then (j_21 (o_12.2.2.2.1, o_12.2.2.2.2)) else (zb (fn_X12_isIn s_16 lq.toInt64 hi.toInt64) (fun o_28 => (if o_28 = 0 then (zb (fn_X12_faults 2 s o_12.2.2.2.1 o_12.2.2.2.2) (fun o_33 => (j_21 (o_33.1, o_33.2)))) else (j_21 (o_12.2.2.2.1, o_12.2.2.2.2))))))))))) (fun j_16 => (if m = 0 then (j_16 o_12.1) else (j_16 (-o_12.1))))))) (fun q => zVR n f g lq lo hi s fk fp wa r q) := by
    intro a2 m e2 k2 s2 v2 o2 r ha2 T2 hr1 hr2 hr3
    refine zw_zb0 (zDigM hn ha2 T2) (fun d hd => ?_)
    rcases hd with ⟨k2', v0, v1, rfl⟩ | ⟨k2', d1, d2, d3⟩
    · dsimp only
      have hx : zw (zj (fun (s_16 : Int64) => (zb (fn_X12_goesWell 0) (fun o_17 => (zj (fun (s_21 : Int32 × Int32) => (zb (fn_X12_goesWell s_21.1) (fun o_22 => (if o_22 = 0 then (some ((0 : Int64), e2, s, s_21.1, s_21.2)) else (some (s_16, e2, s, s_21.1, s_21.2)))))) (fun j_21 => (if o_17 = 0 then (j_21 (0, wa)) else (zb (fn_X12_isIn s_16 lq.toInt64 hi.toInt64) (fun o_28 => (if o_28 = 0 then (zb (fn_X12_faults 2 s 0 wa) (fun o_33 => (j_21 (o_33.1, o_33.2)))) else (j_21 (0, wa))))))))))) (fun j_16 => (if m = 0 then (j_16 v2.toInt64) else (j_16 (-v2.toInt64))))) (fun q => zVR n f g lq lo hi s fk fp wa r q) := by
        refine zw_zj (fun x => x = (if m = 0 then v2 else -v2).toInt64) (fun x hx => ?_) (fun j_16 hj16 => ?_)
        · subst hx
          simp only [zGw_0, zb_some, zIsIn, zFl_0]
          refine zw_zj (fun t => t = (0, wa) ∧ (lq ≤ (if m = 0 then v2 else -v2) ∧ (if m = 0 then v2 else -v2) ≤ hi) ∨ t = (2, s) ∧ ¬ (lq ≤ (if m = 0 then v2 else -v2) ∧ (if m = 0 then v2 else -v2) ≤ hi)) (fun t ht3 => ?_) (fun j_21 hj21 => ?_)
          · rcases ht3 with ⟨rfl, hin⟩ | ⟨rfl, hin⟩
            · dsimp only
              rw [zGw_0, zb_some, if_neg (by decide)]
              by_cases hlo : lo ≤ (if m = 0 then v2 else -v2)
              · obtain ⟨y, hy1, hy2⟩ := hr1 k2' ⟨hlo, hin.2⟩
                exact zw_some (Or.inl ⟨_, y, e2, hy1, rfl, hlo, hin.2, hy2⟩)
              · obtain ⟨y1, y2, y3⟩ := hr2 k2' (fun q => hlo q.1)
                exact zw_some (Or.inr (Or.inr ⟨y1, y2, y3, _, _, rfl, hin.1, by grind⟩))
            · dsimp only
              rw [zGw_n (by decide), zb_some, if_pos rfl]
              obtain ⟨y1, y2, y3⟩ := hr2 k2' (fun q => hin ⟨by grind, q.2⟩)
              exact zw_some (Or.inr (Or.inl ⟨y1, show ¬ (2 : Int32) = 0 by decide, y2, y3⟩))
          · refine zw_if (fun q => absurd q (by decide)) (fun _ => ?_)
            refine zw_if (fun q => ?_) (fun q => ?_)
            · have q1 := zIf0 q
              rw [z64_le, z64_le] at q1
              exact hj21 _ (Or.inr ⟨rfl, q1⟩)
            · have q1 := zIf1 q
              rw [z64_le, z64_le] at q1
              exact hj21 _ (Or.inl ⟨rfl, q1⟩)
        · refine zw_if (fun q => hj16 _ (by rw [if_pos q])) (fun q => hj16 _ (by rw [if_neg q]; exact zNeg64 v0 v1))
      exact hx
    · obtain ⟨x1, x2, x3, x4, x5⟩ := d
      dsimp only at d1 d2 d3 ⊢
      subst d2
      obtain ⟨y1, y2, y3⟩ := hr3 k2'
      simp only [zGw_n (show ¬ (1 : Int32) = 0 by decide), zb_some, if_true, zj, ite_self]
      exact zw_some (Or.inr (Or.inl ⟨y1, show ¬ (1 : Int32) = 0 by decide, y2, y3.trans d3.symm⟩))
  unfold fn_X5_readValue
  simp only [fn_X5_stopAt, zb_some, zIsSign]
  refine zw_zj (fun t => t = 0 ∧ ¬ (k = 3 ∧ v = 45) ∨ t = 1 ∧ (k = 3 ∧ v = 45)) (fun t ht1 => ?_) (fun j_1 hj1 => ?_)
  · refine zw_zj (fun w => (t = 0 ∧ w = (e, k, s, v, o)) ∨ (t = 1 ∧ zNext n f g e w)) (fun w hw => ?_) (fun j_2 hj2 => ?_)
    · have hw2 : ∃ a2, (t = 0 ∧ a2 = s ∨ t = 1 ∧ a2 = e) ∧ zNext n f g a2 w := by
        rcases hw with ⟨w1, rfl⟩ | ⟨w1, w2⟩
        · exact ⟨s, Or.inl ⟨w1, rfl⟩, ⟨(zTok_b ha T).1, (zTok_b ha T).2.1⟩, zTok_s T⟩
        · exact ⟨e, Or.inr ⟨w1, rfl⟩, w2⟩
      obtain ⟨a2, ha2, ha3, T2⟩ := hw2
      obtain ⟨e2, k2, s2, v2, o2⟩ := w
      dsimp only at T2 ⊢
      have hgo : ∀ r : Int32 × Int32 × Int32 × Int32 × Int32 × Int32 × Int32 × Int32 × Int32, (k2 = 2 → (lo ≤ (if t = 0 then v2 else -v2) ∧ (if t = 0 then v2 else -v2) ≤ hi) → ∃ y, r = (1, (if t = 0 then v2 else -v2), fk, fp, y) ∧ zNext n f g e2 y) → (k2 = 2 → ¬ (lo ≤ (if t = 0 then v2 else -v2) ∧ (if t = 0 then v2 else -v2) ≤ hi) → r.1 = 0 ∧ r.2.2.1 = 2 ∧ r.2.2.2.1 = s) → (¬ k2 = 2 → r.1 = 0 ∧ r.2.2.1 = 1 ∧ r.2.2.2.1 = s2) → zw (fn_X12_signed lq.toInt64 hi.toInt64 n a bg 0 wa g) (fun q => zVR n f g lq lo hi s fk fp wa r q) := by
        intro r h1 h2 h3
        refine hsg _ (fun a3 m hm => ?_)
        have hmt : m = t := by
          rcases ht1 with ⟨t0, t1⟩ | ⟨t0, t1⟩
          · rcases hm with ⟨m0, _, _⟩ | ⟨_, _, m1⟩
            · rw [t0, m0]
            · exact absurd m1 t1
          · rcases hm with ⟨_, _, m1⟩ | ⟨m0, _, _⟩
            · exact absurd t1 m1
            · rw [t0, m0]
        have hat : a3 = a2 := by
          rcases hm with ⟨m0, m1, _⟩ | ⟨m0, m1, _⟩
          · rcases ha2 with ⟨_, q⟩ | ⟨q, _⟩
            · rw [m1, q]
            · rw [hmt, q] at m0; exact absurd m0 (by decide)
          · rcases ha2 with ⟨q, _⟩ | ⟨_, q⟩
            · rw [hmt, q] at m0; exact absurd m0 (by decide)
            · rw [m1, q]
        rw [hmt, hat]
        exact hdg a2 t e2 k2 s2 v2 o2 r ha3 T2 h1 h2 h3
      refine zw_if (fun c => ?_) (fun c => ?_)
      · refine zw_zj (fun y => y = (if t = 0 then v2 else -v2)) (fun y hy => ?_) (fun j_4 hj4 => ?_)
        · subst hy
          refine zw_if (fun d => ?_) (fun d => ?_)
          · exact zw_some (hgo _ (fun _ q => absurd q.1 (by grind)) (fun _ _ => ⟨rfl, rfl, rfl⟩) (fun q => absurd c q))
          refine zw_if (fun d2 => ?_) (fun d2 => ?_)
          · refine zw_zb0 (zAdvN hn ha3 ht ho T2 (Or.inr (Or.inl c))) (fun z hz => ?_)
            exact zw_some (hgo _ (fun _ _ => ⟨z, rfl, (zTok_nx hn ha3 T2 (Or.inr (Or.inl c))).1, hz⟩) (fun _ q => absurd ⟨by grind, d2⟩ q) (fun q => absurd c q))
          · exact zw_some (hgo _ (fun _ q => absurd q.2 d2) (fun _ _ => ⟨rfl, rfl, rfl⟩) (fun q => absurd c q))
        · exact zw_if (fun q => hj4 _ (by rw [if_pos q])) (fun q => hj4 _ (by rw [if_neg q]))
      · exact zw_some (hgo _ (fun q => absurd q c) (fun q => absurd q c) (fun _ => ⟨rfl, rfl, rfl⟩))
    · rcases ht1 with ⟨t0, t1⟩ | ⟨t0, t1⟩
      · exact zw_if (fun _ => hj2 _ (Or.inl ⟨t0, rfl⟩)) (fun q => absurd t0 q)
      · refine zw_if (fun q => absurd (t0.symm.trans q) (by decide)) (fun _ => ?_)
        refine zw_zb0 (zAdvN hn ha ht ho T (Or.inr (Or.inr t1.1))) (fun z hz => ?_)
        exact hj2 _ (Or.inr ⟨t0, (zTok_nx hn ha T (Or.inr (Or.inr t1.1))).1, hz⟩)
  · refine zw_zj (fun _ => ¬ (k = 3 ∧ v = 45)) (fun _ q => hj1 0 (Or.inl ⟨rfl, q⟩)) (fun j_29 hj29 => ?_)
    refine zw_if (fun q => absurd q (by decide)) (fun _ => ?_)
    exact zw_if (fun q => hj29 () (zIf0 q)) (fun q => hj1 1 (Or.inr ⟨rfl, zIf1 q⟩))
