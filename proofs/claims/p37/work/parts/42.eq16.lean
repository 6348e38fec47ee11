/-! the tape's length: class and reference side by side -/
theorem zeq0 {a b : Int32} (h1 : a = 0) (h2 : b = 0) : a = b := h1.trans h2.symm
noncomputable def zPB (p : Int32) (s : Int32 × Int32 × (Nat → Int32)) (back : (Int32 × Int32 × (Nat → Int32)) → Option (Int32 × (Nat → Int32))) : Option (Int32 × (Nat → Int32)) := (if s.1 < 0 then (some (s.2.1, s.2.2)) else (if 1200 ≤ s.2.1 then (back ((s.1 + (-8)), s.2.1, s.2.2)) else (zg s.2.1 1200 (zn (upd s.2.2 s.2.1.toNatClampNeg (vp_nar .byte (p >>> (s.1 &&& 31)).toInt8.toInt32)) (fun g => (back ((s.1 + (-8)), (s.2.1 + 1), g)))))))
theorem zPB_go {p s l : Int32} {f : Nat → Int32} {n : Nat} {o : Int32 × (Nat → Int32)} (h : zl (zPB p) (n + 1) (s, l, f) = some o) (hs : ¬ s < 0) (hl : ¬ 1200 ≤ l) : ∃ g, zl (zPB p) n (s + (-8), l + 1, g) = some o := by
  have h : (if s < 0 then (some (l, f)) else (if 1200 ≤ l then (zl (zPB p) n ((s + (-8)), l, f)) else (zg l 1200 (zn (upd f l.toNatClampNeg (vp_nar .byte (p >>> (s &&& 31)).toInt8.toInt32)) (fun g => (zl (zPB p) n ((s + (-8)), (l + 1), g))))))) = some o := h
  rw [if_neg hs, if_neg hl] at h
  obtain ⟨-, h⟩ := zg_s h
  exact ⟨_, h⟩
theorem zPB_end {p s l : Int32} {f : Nat → Int32} {n : Nat} {o : Int32 × (Nat → Int32)} (h : zl (zPB p) (n + 1) (s, l, f) = some o) (hs : s < 0) : o.1 = l := by
  have h : (if s < 0 then (some (l, f)) else (if 1200 ≤ l then (zl (zPB p) n ((s + (-8)), l, f)) else (zg l 1200 (zn (upd f l.toNatClampNeg (vp_nar .byte (p >>> (s &&& 31)).toInt8.toInt32)) (fun g => (zl (zPB p) n ((s + (-8)), (l + 1), g))))))) = some o := h
  rw [if_pos hs] at h
  rw [← Option.some.inj h]
theorem zputlen {p v : Int32} {f : Nat → Int32} {o : Int32 × (Nat → Int32)} (h : fn_X11_putBytes p v f = some o) (h0 : 0 ≤ v) (h1 : v ≤ 1196) : o.1 = v + 4 := by
  have h : zl (zPB p) (99995 + 1 + 1 + 1 + 1 + 1) (24, v, f) = some o := h
  obtain ⟨g1, h⟩ := zPB_go h (by decide +kernel) (by lia)
  obtain ⟨g2, h⟩ := zPB_go h (by decide +kernel) (by lia)
  obtain ⟨g3, h⟩ := zPB_go h (by decide +kernel) (by lia)
  obtain ⟨g4, h⟩ := zPB_go h (by decide +kernel) (by lia)
  have e := zPB_end h (by decide +kernel)
  rw [e]
  lia
noncomputable def zLB (p v : Int32) (s : Int32 × (Nat → Int32)) (back : (Int32 × (Nat → Int32)) → Option (Int32 × (Nat → Int32))) : Option (Int32 × (Nat → Int32)) := (if 4 ≤ s.1 then (some ((v + 4), s.2)) else (zg (v + s.1) 1200 (zn (upd s.2 (v + s.1).toNatClampNeg ((p >>> ((24 - (8 * s.1)) &&& 31)) &&& 255)) (fun g => (back ((s.1 + 1), g))))))
theorem zlayslen' (p v : Int32) : ∀ (n : Nat) (s o : Int32 × (Nat → Int32)), zl (zLB p v) n s = some o → o.1 = v + 4 := by
  intro n
  induction n with
  | zero =>
    intro s o h
    exact (zl_0 h).elim
  | succ n ih =>
    intro s o h
    have h : (if 4 ≤ s.1 then (some ((v + 4), s.2)) else (zg (v + s.1) 1200 (zn (upd s.2 (v + s.1).toNatClampNeg ((p >>> ((24 - (8 * s.1)) &&& 31)) &&& 255)) (fun g => (zl (zLB p v) n ((s.1 + 1), g)))))) = some o := h
    by_cases c : 4 ≤ s.1
    · rw [if_pos c] at h
      rw [← Option.some.inj h]
    · rw [if_neg c] at h
      obtain ⟨-, h⟩ := zg_s h
      exact ih _ _ h
theorem zlayslen {p v : Int32} {f : Nat → Int32} {o : Int32 × (Nat → Int32)} (h : fn_X12_lays p v f = some o) : o.1 = v + 4 := zlayslen' p v 100000 (0, f) o h
theorem zeq_feed {p1 p2 p3 p4 p5 v w : Int32} {f1 f2 g1 g2 : Nat → Int32} {o o' : Int32 × Int32 × (Nat → Int32) × (Nat → Int32)} (e : v = w) (hv : 0 ≤ v ∧ v ≤ 1200) (h1 : fn_X11_feed p1 p2 p3 p4 p5 v f1 f2 = some o) (h2 : fn_X12_feed p1 p2 p3 p4 p5 w g1 g2 = some o') : o.1 = o'.1 ∧ o.2.1 = o'.2.1 := by
  subst e
  obtain ⟨hv1, hv2⟩ := hv
  unfold fn_X11_feed at h1
  unfold fn_X12_feed at h2
  by_cases c : v ≤ 1180
  · rw [if_pos c] at h1
    rw [if_pos (by lia)] at h2
    obtain ⟨a1, e1, h1⟩ := zb_s h1
    obtain ⟨a2, e2, h1⟩ := zb_s h1
    obtain ⟨a3, e3, h1⟩ := zb_s h1
    obtain ⟨a4, e4, h1⟩ := zb_s h1
    obtain ⟨a5, e5, h1⟩ := zb_s h1
    obtain ⟨b1, d1, h2⟩ := zb_s h2
    obtain ⟨b2, d2, h2⟩ := zb_s h2
    obtain ⟨b3, d3, h2⟩ := zb_s h2
    obtain ⟨b4, d4, h2⟩ := zb_s h2
    obtain ⟨b5, d5, h2⟩ := zb_s h2
    have q1 := zputlen e1 hv1 (by lia)
    have q2 := zputlen e2 (by lia) (by lia)
    have q3 := zputlen e3 (by lia) (by lia)
    have q4 := zputlen e4 (by lia) (by lia)
    have q5 := zputlen e5 (by lia) (by lia)
    have r1 := zlayslen d1
    have r2 := zlayslen d2
    have r3 := zlayslen d3
    have r4 := zlayslen d4
    have r5 := zlayslen d5
    have t1 : a5.1 = v + 20 := by lia
    have t2 : b5.1 = v + 20 := by lia
    rw [← Option.some.inj h1, ← Option.some.inj h2]
    exact ⟨t1.trans t2.symm, t1.trans t2.symm⟩
  · rw [if_neg c] at h1
    rw [if_neg (by lia)] at h2
    obtain ⟨a1, e1, h1⟩ := zb_s h1
    obtain ⟨b1, d1, h2⟩ := zb_s h2
    unfold fn_X11_refuse at e1
    rw [if_neg (by decide +kernel), if_neg (by decide +kernel)] at e1
    obtain ⟨-, e1⟩ := zg_s e1
    unfold fn_X12_refuses at d1
    obtain ⟨-, d1⟩ := zg_s d1
    rw [← Option.some.inj h1, ← Option.some.inj h2, ← Option.some.inj e1, ← Option.some.inj d1]
    exact ⟨rfl, rfl⟩
theorem zeq_end {p v w : Int32} {f g : Nat → Int32} {o o' : Int32 × Int32 × (Nat → Int32)} (e : v = w) (_hv : 0 ≤ v ∧ v ≤ 1200) (h1 : fn_X11_end p v f = some o) (h2 : fn_X12_end p w g = some o') : o.1 = o'.1 ∧ o.2.1 = o'.2.1 := by
  subst e
  unfold fn_X11_end at h1
  unfold fn_X12_end at h2
  by_cases c : p < 0
  · rw [if_pos c] at h1 h2
    obtain ⟨a1, e1, h1⟩ := zb_s h1
    obtain ⟨b1, d1, h2⟩ := zb_s h2
    unfold fn_X12_isRefused at d1
    obtain ⟨-, d1⟩ := zg_s d1
    rw [← Option.some.inj h1, ← Option.some.inj h2, ← Option.some.inj d1]
    exact ⟨rfl, rfl⟩
  · rw [if_neg c] at h1 h2
    by_cases c2 : p ≤ v
    · rw [if_pos c2] at h1 h2
      rw [← Option.some.inj h1, ← Option.some.inj h2]
      exact ⟨rfl, rfl⟩
    · rw [if_neg c2] at h1 h2
      obtain ⟨a1, e1, h1⟩ := zb_s h1
      obtain ⟨b1, d1, h2⟩ := zb_s h2
      unfold fn_X12_isRefused at d1
      obtain ⟨-, d1⟩ := zg_s d1
      rw [← Option.some.inj h1, ← Option.some.inj h2, ← Option.some.inj d1]
      exact ⟨rfl, rfl⟩
theorem zeq_fault {p a b c d : Int32} {o o' : Int32} (e1 : a = c) (e2 : b = d) (h1 : fn_X11_fault p a b = some o) (h2 : fn_X12_fault p c d = some o') : o = o' := by
  subst e1
  subst e2
  unfold fn_X11_fault at h1
  unfold fn_X12_fault at h2
  grind
theorem bp_b (x : Int32) : x.toInt8.toInt32 &&& 255 = x &&& 255 := by
  apply Int32.toBitVec_inj.mp
  rw [Int32.toBitVec_and, Int32.toBitVec_and, Int8.toBitVec_toInt32, Int32.toBitVec_toInt8]
  apply BitVec.eq_of_getLsbD_eq
  intro i hi
  rw [BitVec.getLsbD_and, BitVec.getLsbD_and]
  have hm : ∀ i < 32, 8 ≤ i → (255 : Int32).toBitVec.getLsbD i = false := by decide
  rcases Nat.lt_or_ge i 8 with z | z
  · rw [BitVec.getLsbD_signExtend, BitVec.getLsbD_signExtend, if_pos z, if_pos hi]
    simp only [z, hi, decide_true, Bool.true_and]
  · rw [hm i hi z]; simp
/-! the tape's bytes: class and reference side by side -/
theorem zByte (x : Int32) : (-128) ≤ x.toInt8.toInt32 ∧ x.toInt8.toInt32 ≤ 127 ∧ (x &&& 255) = (if x.toInt8.toInt32 < 0 then x.toInt8.toInt32 + 256 else x.toInt8.toInt32) := by
  rw [← bp_b x]
  generalize x.toInt8 = t
  have h : ∀ n : Nat, n < 256 → (-128) ≤ (Int8.ofNat n).toInt32 ∧ (Int8.ofNat n).toInt32 ≤ 127 ∧ ((Int8.ofNat n).toInt32 &&& 255) = (if (Int8.ofNat n).toInt32 < 0 then (Int8.ofNat n).toInt32 + 256 else (Int8.ofNat n).toInt32) := by decide +kernel
  have e : t = Int8.ofNat t.toBitVec.toNat := by
    apply Int8.toBitVec.inj
    simp
  rw [e]
  exact h _ t.toBitVec.isLt
theorem zByte' (x : Int32) : (-128) ≤ vp_nar .byte x.toInt8.toInt32 ∧ vp_nar .byte x.toInt8.toInt32 ≤ 127 ∧ (x &&& 255) = (if vp_nar .byte x.toInt8.toInt32 < 0 then vp_nar .byte x.toInt8.toInt32 + 256 else vp_nar .byte x.toInt8.toInt32) := by
  rw [pk_vb]
  exact zByte x
theorem zTp_up {f g : Nat → Int32} {i : Nat} {x y : Int32} (h : zTp f g) (hx : (-128) ≤ x ∧ x ≤ 127 ∧ y = if x < 0 then x + 256 else x) : zTp (upd f i x) (upd g i y) := by
  intro j
  show (-128) ≤ (if j = i then x else f j) ∧ (if j = i then x else f j) ≤ 127 ∧ (if j = i then y else g j) = (if (if j = i then x else f j) < 0 then (if j = i then x else f j) + 256 else (if j = i then x else f j))
  by_cases c : j = i
  · rw [if_pos c, if_pos c]
    exact hx
  · rw [if_neg c, if_neg c]
    exact h j
theorem zPB_go' {p s l : Int32} {f : Nat → Int32} {n : Nat} {o : Int32 × (Nat → Int32)} (h : zl (zPB p) (n + 1) (s, l, f) = some o) (hs : ¬ s < 0) (hl : ¬ 1200 ≤ l) : zl (zPB p) n (s + (-8), l + 1, upd f l.toNatClampNeg (vp_nar .byte (p >>> (s &&& 31)).toInt8.toInt32)) = some o := by
  have h : (if s < 0 then (some (l, f)) else (if 1200 ≤ l then (zl (zPB p) n ((s + (-8)), l, f)) else (zg l 1200 (zn (upd f l.toNatClampNeg (vp_nar .byte (p >>> (s &&& 31)).toInt8.toInt32)) (fun g => (zl (zPB p) n ((s + (-8)), (l + 1), g))))))) = some o := h
  rw [if_neg hs, if_neg hl] at h
  obtain ⟨-, h⟩ := zg_s h
  exact h
theorem zPB_end' {p s l : Int32} {f : Nat → Int32} {n : Nat} {o : Int32 × (Nat → Int32)} (h : zl (zPB p) (n + 1) (s, l, f) = some o) (hs : s < 0) : o.2 = f := by
  have h : (if s < 0 then (some (l, f)) else (if 1200 ≤ l then (zl (zPB p) n ((s + (-8)), l, f)) else (zg l 1200 (zn (upd f l.toNatClampNeg (vp_nar .byte (p >>> (s &&& 31)).toInt8.toInt32)) (fun g => (zl (zPB p) n ((s + (-8)), (l + 1), g))))))) = some o := h
  rw [if_pos hs] at h
  rw [← Option.some.inj h]
theorem zLB_go {p v k : Int32} {f : Nat → Int32} {n : Nat} {o : Int32 × (Nat → Int32)} (h : zl (zLB p v) (n + 1) (k, f) = some o) (hk : ¬ 4 ≤ k) : zl (zLB p v) n (k + 1, upd f (v + k).toNatClampNeg ((p >>> ((24 - (8 * k)) &&& 31)) &&& 255)) = some o := by
  have h : (if 4 ≤ k then (some ((v + 4), f)) else (zg (v + k) 1200 (zn (upd f (v + k).toNatClampNeg ((p >>> ((24 - (8 * k)) &&& 31)) &&& 255)) (fun g => (zl (zLB p v) n ((k + 1), g)))))) = some o := h
  rw [if_neg hk] at h
  obtain ⟨-, h⟩ := zg_s h
  exact h
theorem zLB_end {p v k : Int32} {f : Nat → Int32} {n : Nat} {o : Int32 × (Nat → Int32)} (h : zl (zLB p v) (n + 1) (k, f) = some o) (hk : 4 ≤ k) : o.2 = f := by
  have h : (if 4 ≤ k then (some ((v + 4), f)) else (zg (v + k) 1200 (zn (upd f (v + k).toNatClampNeg ((p >>> ((24 - (8 * k)) &&& 31)) &&& 255)) (fun g => (zl (zLB p v) n ((k + 1), g)))))) = some o := h
  rw [if_pos hk] at h
  rw [← Option.some.inj h]
theorem zTp_put {p v : Int32} {f g : Nat → Int32} {o o' : Int32 × (Nat → Int32)} (ht : zTp f g) (h0 : 0 ≤ v) (h1 : v ≤ 1196) (e1 : fn_X11_putBytes p v f = some o) (e2 : fn_X12_lays p v g = some o') : zTp o.2 o'.2 := by
  have h : zl (zPB p) (99995 + 1 + 1 + 1 + 1 + 1) (24, v, f) = some o := e1
  have h := zPB_go' h (by decide +kernel) (by lia)
  have h := zPB_go' h (by decide +kernel) (by lia)
  have h := zPB_go' h (by decide +kernel) (by lia)
  have h := zPB_go' h (by decide +kernel) (by lia)
  have h := zPB_end' h (by decide +kernel)
  have k : zl (zLB p v) (99995 + 1 + 1 + 1 + 1 + 1) (0, g) = some o' := e2
  have k := zLB_go k (by decide +kernel)
  have k := zLB_go k (by decide +kernel)
  have k := zLB_go k (by decide +kernel)
  have k := zLB_go k (by decide +kernel)
  have k := zLB_end k (by decide +kernel)
  rw [h, k]
  have i0 : v + 0 = v := by grind
  have i1 : v + (0 + 1) = v + 1 := by grind
  have i2 : v + (0 + 1 + 1) = v + 1 + 1 := by grind
  have i3 : v + (0 + 1 + 1 + 1) = v + 1 + 1 + 1 := by grind
  have s0 : ((24 - (8 * 0)) &&& 31 : Int32) = 24 &&& 31 := by decide +kernel
  have s1 : ((24 - (8 * (0 + 1))) &&& 31 : Int32) = (24 + (-8)) &&& 31 := by decide +kernel
  have s2 : ((24 - (8 * (0 + 1 + 1))) &&& 31 : Int32) = (24 + (-8) + (-8)) &&& 31 := by decide +kernel
  have s3 : ((24 - (8 * (0 + 1 + 1 + 1))) &&& 31 : Int32) = (24 + (-8) + (-8) + (-8)) &&& 31 := by decide +kernel
  rw [i0, i1, i2, i3, s0, s1, s2, s3]
  exact zTp_up (zTp_up (zTp_up (zTp_up ht (zByte' _)) (zByte' _)) (zByte' _)) (zByte' _)
theorem zTp_feed {p1 p2 p3 p4 p5 v w : Int32} {f1 f2 g1 g2 : Nat → Int32} {o o' : Int32 × Int32 × (Nat → Int32) × (Nat → Int32)} (e : v = w) (hv : 0 ≤ v ∧ v ≤ 1200) (ht : zTp f1 g1) (h1 : fn_X11_feed p1 p2 p3 p4 p5 v f1 f2 = some o) (h2 : fn_X12_feed p1 p2 p3 p4 p5 w g1 g2 = some o') : zTp o.2.2.1 o'.2.2.1 := by
  subst e
  obtain ⟨hv1, hv2⟩ := hv
  unfold fn_X11_feed at h1
  unfold fn_X12_feed at h2
  by_cases c : v ≤ 1180
  · rw [if_pos c] at h1
    rw [if_pos (by lia)] at h2
    obtain ⟨a1, e1, h1⟩ := zb_s h1
    obtain ⟨a2, e2, h1⟩ := zb_s h1
    obtain ⟨a3, e3, h1⟩ := zb_s h1
    obtain ⟨a4, e4, h1⟩ := zb_s h1
    obtain ⟨a5, e5, h1⟩ := zb_s h1
    obtain ⟨b1, d1, h2⟩ := zb_s h2
    obtain ⟨b2, d2, h2⟩ := zb_s h2
    obtain ⟨b3, d3, h2⟩ := zb_s h2
    obtain ⟨b4, d4, h2⟩ := zb_s h2
    obtain ⟨b5, d5, h2⟩ := zb_s h2
    have q1 := zputlen e1 hv1 (by lia)
    have q2 := zputlen e2 (by lia) (by lia)
    have q3 := zputlen e3 (by lia) (by lia)
    have q4 := zputlen e4 (by lia) (by lia)
    have r1 := zlayslen d1
    have r2 := zlayslen d2
    have r3 := zlayslen d3
    have r4 := zlayslen d4
    rw [show b1.1 = a1.1 by rw [q1, r1]] at d2
    rw [show b2.1 = a2.1 by rw [r2, q2, show b1.1 = a1.1 by rw [q1, r1]]] at d3
    rw [show b3.1 = a3.1 by lia] at d4
    rw [show b4.1 = a4.1 by lia] at d5
    have t1 := zTp_put ht hv1 (by lia) e1 d1
    have t2 := zTp_put t1 (by lia) (by lia) e2 d2
    have t3 := zTp_put t2 (by lia) (by lia) e3 d3
    have t4 := zTp_put t3 (by lia) (by lia) e4 d4
    have t5 := zTp_put t4 (by lia) (by lia) e5 d5
    rw [← Option.some.inj h1, ← Option.some.inj h2]
    exact t5
  · rw [if_neg c] at h1
    rw [if_neg (by lia)] at h2
    obtain ⟨a1, e1, h1⟩ := zb_s h1
    obtain ⟨b1, d1, h2⟩ := zb_s h2
    rw [← Option.some.inj h1, ← Option.some.inj h2]
    exact ht
/-! GROUPS: the class counts them, the reference names each by its least NUMBER -/
noncomputable def zRk (G : Nat → Int32) : Nat → Int32 := zct (fun k => decide (G k = Int32.ofNat k))
theorem zRk_t {G : Nat → Int32} {p : Int32} (h0 : 0 ≤ p) (h1 : p ≤ 14) (h : G p.toNatClampNeg = p) : zRk G (p + 1).toNatClampNeg = zRk G p.toNatClampNeg + 1 :=
  zct_t h0 (by grind) (by show decide (G p.toNatClampNeg = Int32.ofNat p.toNatClampNeg) = true; rw [zofn' p h0]; exact decide_eq_true h)
theorem zRk_f {G : Nat → Int32} {p : Int32} (h0 : 0 ≤ p) (h1 : p ≤ 14) (h : ¬ G p.toNatClampNeg = p) : zRk G (p + 1).toNatClampNeg = zRk G p.toNatClampNeg :=
  zct_f h0 (by grind) (by show ¬ decide (G p.toNatClampNeg = Int32.ofNat p.toNatClampNeg) = true; rw [zofn' p h0]; exact fun q => h (of_decide_eq_true q))
theorem zRk_b {G : Nat → Int32} {p : Int32} (h0 : 0 ≤ p) (h1 : p ≤ 14) : 0 ≤ zRk G p.toNatClampNeg ∧ zRk G p.toNatClampNeg ≤ p := zct_b32 h0 h1
theorem zRk_lt {G : Nat → Int32} {a b : Int32} (h0 : 0 ≤ a) (h1 : a < b) (h2 : b ≤ 14) (hl : G a.toNatClampNeg = a) : zRk G a.toNatClampNeg < zRk G b.toNatClampNeg := by
  have e := zRk_t h0 (by grind) hl
  have m : zRk G (a + 1).toNatClampNeg ≤ zRk G b.toNatClampNeg := zct_m32 (by grind) (by grind) h2
  have r := zRk_b (G := G) h0 (show a ≤ 14 by grind)
  rw [e] at m
  generalize zRk G a.toNatClampNeg = u at m r ⊢
  generalize zRk G b.toNatClampNeg = v at m ⊢
  grind
theorem zRk_ne {G : Nat → Int32} {a b : Int32} (ha : 0 ≤ a ∧ a ≤ 14) (hb : 0 ≤ b ∧ b ≤ 14) (la : G a.toNatClampNeg = a) (lb : G b.toNatClampNeg = b) (h : ¬ a = b) : ¬ zRk G a.toNatClampNeg = zRk G b.toNatClampNeg := by
  intro q
  by_cases c : a < b
  · have := zRk_lt ha.1 c hb.2 la
    rw [q] at this
    grind
  · have := zRk_lt (G := G) hb.1 (show b < a by grind) ha.2 lb
    rw [q] at this
    grind
/-- how a GROUP (by its least NUMBER j) is fixed by the first m NUMBERS -/
noncomputable def zFxS (mG fx : Nat → Int32) (m j v : Int32) : Prop :=
  v = (-1) ∧ (∀ o : Int32, 0 ≤ o → o < m → mG o.toNatClampNeg = j → fx o.toNatClampNeg = (-1))
  ∨ v = (-2) ∧ (∃ o p : Int32, 0 ≤ o ∧ o < m ∧ 0 ≤ p ∧ p < m ∧ mG o.toNatClampNeg = j ∧ mG p.toNatClampNeg = j ∧ ¬ fx o.toNatClampNeg = (-1) ∧ ¬ fx p.toNatClampNeg = (-1) ∧ ¬ fx o.toNatClampNeg = fx p.toNatClampNeg)
  ∨ 0 ≤ v ∧ (∃ o : Int32, 0 ≤ o ∧ o < m ∧ mG o.toNatClampNeg = j ∧ fx o.toNatClampNeg = v) ∧ (∀ o : Int32, 0 ≤ o → o < m → mG o.toNatClampNeg = j → fx o.toNatClampNeg = (-1) ∨ fx o.toNatClampNeg = v)
theorem zFxS_o {mG fx : Nat → Int32} {i j v : Int32} (hi : 0 ≤ i ∧ i < 14) (hj : mG i.toNatClampNeg = j → fx i.toNatClampNeg = (-1) ∨ fx i.toNatClampNeg = v ∧ 0 ≤ v) (h : zFxS mG fx i j v) : zFxS mG fx (i + 1) j v := by
  have hs : ∀ o : Int32, o < i + 1 → o = i ∨ o < i := fun o ho => by grind
  have hl : ∀ o : Int32, o < i → o < i + 1 := fun o ho => by grind
  rcases h with ⟨a1, a2⟩ | ⟨a1, o, p, b1, b2, b3, b4, b5⟩ | ⟨a1, ⟨o, b1, b2, b3⟩, a2⟩
  · refine Or.inl ⟨a1, fun o o1 o2 o3 => ?_⟩
    rcases hs o o2 with q | q
    · rw [q] at o3 ⊢
      rcases hj o3 with w | w
      · exact w
      · exact absurd w.2 (by rw [a1]; decide)
    · exact a2 o o1 q o3
  · exact Or.inr (Or.inl ⟨a1, o, p, b1, hl o b2, b3, hl p b4, b5⟩)
  · refine Or.inr (Or.inr ⟨a1, ⟨o, b1, hl o b2, b3⟩, fun u u1 u2 u3 => ?_⟩)
    rcases hs u u2 with q | q
    · rw [q] at u3 ⊢
      rcases hj u3 with w | w
      · exact Or.inl w
      · exact Or.inr w.1
    · exact a2 u u1 q u3
theorem zFxS_1 {mG fx : Nat → Int32} {i j : Int32} (hi : 0 ≤ i ∧ i < 14) (hj : mG i.toNatClampNeg = j) (hf : 0 ≤ fx i.toNatClampNeg) (h : zFxS mG fx i j (-1)) : zFxS mG fx (i + 1) j (fx i.toNatClampNeg) := by
  have hs : ∀ o : Int32, o < i + 1 → o = i ∨ o < i := fun o ho => by grind
  rcases h with ⟨_, a2⟩ | ⟨a1, _⟩ | ⟨a1, _⟩
  · refine Or.inr (Or.inr ⟨hf, ⟨i, hi.1, by grind, hj, rfl⟩, fun u u1 u2 u3 => ?_⟩)
    rcases hs u u2 with q | q
    · rw [q]; exact Or.inr rfl
    · exact Or.inl (a2 u u1 q u3)
  · exact absurd a1 (by decide)
  · exact absurd a1 (by decide)
theorem zFxS_2 {mG fx : Nat → Int32} {i j v : Int32} (hi : 0 ≤ i ∧ i < 14) (hj : mG i.toNatClampNeg = j) (hf : 0 ≤ fx i.toNatClampNeg) (h1 : ¬ v = (-1)) (h2 : ¬ v = fx i.toNatClampNeg) (h : zFxS mG fx i j v) : zFxS mG fx (i + 1) j (-2) := by
  have hl : ∀ o : Int32, o < i → o < i + 1 := fun o ho => by grind
  have hf1 : ¬ fx i.toNatClampNeg = (-1) := fun q => by rw [q] at hf; exact absurd hf (by decide)
  rcases h with ⟨a1, _⟩ | ⟨a1, o, p, b1, b2, b3, b4, b5⟩ | ⟨a1, ⟨o, b1, b2, b3, b4⟩, a2⟩
  · exact absurd a1 h1
  · exact Or.inr (Or.inl ⟨rfl, o, p, b1, hl o b2, b3, hl p b4, b5⟩)
  · exact Or.inr (Or.inl ⟨rfl, o, i, b1, hl o b2, hi.1, by grind, b3, hj, by rw [b4]; exact h1, hf1, by rw [b4]; exact h2⟩)
noncomputable def zGi (m gc gcl : Int32) (gof gfx gld fx mG : Nat → Int32) : Prop :=
  gc = zRk mG m.toNatClampNeg ∧ (∀ j : Int32, 0 ≤ j → j < m → gof j.toNatClampNeg = zRk mG (mG j.toNatClampNeg).toNatClampNeg) ∧ (∀ j : Int32, 0 ≤ j → j < m → mG j.toNatClampNeg = j → gld (zRk mG j.toNatClampNeg).toNatClampNeg = j ∧ zFxS mG fx m j (gfx (zRk mG j.toNatClampNeg).toNatClampNeg)) ∧ (gcl = 0 ∨ gcl = 1) ∧ (gcl = 0 → ∀ j : Int32, 0 ≤ j → j < m → mG j.toNatClampNeg = j → ¬ gfx (zRk mG j.toNatClampNeg).toNatClampNeg = (-2)) ∧ (gcl = 1 → ∃ j : Int32, 0 ≤ j ∧ j < m ∧ mG j.toNatClampNeg = j ∧ gfx (zRk mG j.toNatClampNeg).toNatClampNeg = (-2))
noncomputable def zGp (cN gc gfr gcl : Int32) (gof gfx gld fx mG : Nat → Int32) : Prop := zGi cN gc gcl gof gfx gld fx mG ∧ gfr = zct (fun k => decide (gfx k = (-1))) gc.toNatClampNeg
theorem zGi_0 {gof gfx gld fx mG : Nat → Int32} : zGi 0 0 0 gof gfx gld fx mG := by
  have no : ∀ i : Int32, 0 ≤ i → ¬ i < 0 := fun i h q => by grind
  exact ⟨by rw [zn01.1]; rfl, fun j j1 j2 => absurd j2 (no j j1), fun j j1 j2 => absurd j2 (no j j1), Or.inl rfl, fun _ j j1 j2 => absurd j2 (no j j1), fun q => absurd q (by decide)⟩
theorem zEarl {i x : Int32} {jn gof : Nat → Int32} (h : fn_X2_earlierGroup i jn gof = some x) : (x = (-1) ∧ ∀ j : Int32, 0 ≤ j → j < i → ¬ jn j.toNatClampNeg = jn i.toNatClampNeg) ∨ (∃ j : Int32, 0 ≤ j ∧ j < i ∧ jn j.toNatClampNeg = jn i.toNatClampNeg ∧ x = gof j.toNatClampNeg) := by
  unfold fn_X2_earlierGroup at h
  refine zl_ip (P := fun x => (x = (-1) ∧ ∀ j : Int32, 0 ≤ j → j < i → ¬ jn j.toNatClampNeg = jn i.toNatClampNeg) ∨ (∃ j : Int32, 0 ≤ j ∧ j < i ∧ jn j.toNatClampNeg = jn i.toNatClampNeg ∧ x = gof j.toNatClampNeg)) (fun s => 0 ≤ s ∧ ∀ j : Int32, 0 ≤ j → j < s → ¬ jn j.toNatClampNeg = jn i.toNatClampNeg) ?_ _ _ _ ?_ h
  rotate_left
  · exact ⟨by decide, fun j j1 j2 => by grind⟩
  intro s back o ⟨H1, H2⟩ hb ho
  by_cases c : i ≤ s
  · rw [if_pos c] at ho
    rw [← Option.some.inj ho]
    exact Or.inl ⟨rfl, fun j j1 j2 => H2 j j1 (by grind)⟩
  · rw [if_neg c] at ho
    obtain ⟨hs, ho⟩ := zg_s ho
    have hs := vp_in_iff.mp hs
    obtain ⟨-, ho⟩ := zg_s ho
    by_cases d : jn s.toNatClampNeg = jn i.toNatClampNeg
    · rw [if_pos d] at ho
      rw [← Option.some.inj ho]
      exact Or.inr ⟨s, H1, by grind, d, rfl⟩
    · rw [if_neg d] at ho
      have h13 : s < 14 := Int32.lt_iff_toInt_lt.mpr (by rw [show (14 : Int32).toInt = 14 by decide +kernel]; exact hs.2)
      refine hb _ _ ?_ ho
      refine ⟨by grind, fun j j1 j2 => ?_⟩
      by_cases q : j = s
      · rw [q]; exact d
      · exact H2 j j1 (by grind)
theorem zFix2 {g v cl : Int32} {gfx : Nat → Int32} {x : Int32 × (Nat → Int32)} (hc : cl = 0 ∨ cl = 1) (h : fn_X2_fix g v cl gfx = some x) : ((v = (-1) ∨ gfx g.toNatClampNeg = v) ∧ x = (cl, gfx)) ∨ (¬ v = (-1) ∧ gfx g.toNatClampNeg = (-1) ∧ x = (cl, upd gfx g.toNatClampNeg v)) ∨ (¬ v = (-1) ∧ ¬ gfx g.toNatClampNeg = v ∧ ¬ gfx g.toNatClampNeg = (-1) ∧ x = (1, upd gfx g.toNatClampNeg (-2))) := by
  unfold fn_X2_fix at h
  simp only [zj] at h
  by_cases c : v = (-1)
  · rw [if_pos c] at h
    exact Or.inl ⟨Or.inl c, (Option.some.inj h).symm⟩
  · rw [if_neg c] at h
    obtain ⟨-, h⟩ := zg_s h
    by_cases d : gfx g.toNatClampNeg = v
    · rw [if_pos d] at h
      exact Or.inl ⟨Or.inr d, (Option.some.inj h).symm⟩
    · rw [if_neg d] at h
      by_cases e : gfx g.toNatClampNeg = (-1)
      · simp only [if_pos e] at h
        rcases hc with z | z
        · rw [if_pos z] at h
          obtain ⟨-, h⟩ := zt_s h
          obtain ⟨-, h⟩ := zg_s h
          rw [z]
          exact Or.inr (Or.inl ⟨c, e, (Option.some.inj h).symm⟩)
        · rw [if_neg (by rw [z]; decide)] at h
          obtain ⟨-, h⟩ := zt_s h
          obtain ⟨-, h⟩ := zg_s h
          rw [z]
          exact Or.inr (Or.inl ⟨c, e, (Option.some.inj h).symm⟩)
      · simp only [if_neg e] at h
        rcases hc with z | z
        · rw [if_pos z] at h
          obtain ⟨-, h⟩ := zt_s h
          obtain ⟨-, h⟩ := zg_s h
          exact Or.inr (Or.inr ⟨c, d, e, (Option.some.inj h).symm⟩)
        · rw [if_neg (by rw [z]; decide)] at h
          obtain ⟨-, h⟩ := zt_s h
          obtain ⟨-, h⟩ := zg_s h
          exact Or.inr (Or.inr ⟨c, d, e, (Option.some.inj h).symm⟩)
theorem zGstep {cN i c' cl : Int32} {of' gfx' ld' fx jn mG : Nat → Int32} {z : Int32 × (Nat → Int32)} (hN : cN ≤ 14) (hi : 0 ≤ i ∧ i < cN) (hg : zG0 cN jn mG) (hx : (-1) ≤ fx i.toNatClampNeg) (A : c' = zRk mG (i + 1).toNatClampNeg) (B : ∀ j : Int32, 0 ≤ j → j < i + 1 → of' j.toNatClampNeg = zRk mG (mG j.toNatClampNeg).toNatClampNeg) (C : ∀ j : Int32, 0 ≤ j → j < i + 1 → mG j.toNatClampNeg = j → ld' (zRk mG j.toNatClampNeg).toNatClampNeg = j ∧ zFxS mG fx i j (gfx' (zRk mG j.toNatClampNeg).toNatClampNeg)) (D1 : cl = 0 ∨ cl = 1) (D2 : cl = 0 → ∀ j : Int32, 0 ≤ j → j < i + 1 → mG j.toNatClampNeg = j → ¬ gfx' (zRk mG j.toNatClampNeg).toNatClampNeg = (-2)) (D3 : cl = 1 → ∃ j : Int32, 0 ≤ j ∧ j < i + 1 ∧ mG j.toNatClampNeg = j ∧ gfx' (zRk mG j.toNatClampNeg).toNatClampNeg = (-2)) (hf : fn_X2_fix (of' i.toNatClampNeg) (fx i.toNatClampNeg) cl gfx' = some z) : zGi (i + 1) c' z.1 of' z.2 ld' fx mG := by
  have i14 : 0 ≤ i ∧ i < 14 := ⟨hi.1, by grind⟩
  obtain ⟨l1, l2, l3⟩ := hg.1 i hi.1 hi.2
  rw [B i hi.1 (by grind)] at hf
  have g0 := (zRk_b (G := mG) (p := mG i.toNatClampNeg) l1 (by grind)).1
  have nn : ∀ j : Int32, 0 ≤ j → j < i + 1 → 0 ≤ zRk mG j.toNatClampNeg := fun j j1 j2 => (zRk_b j1 (by grind)).1
  have inj : ∀ j : Int32, 0 ≤ j → j < i + 1 → mG j.toNatClampNeg = j → ¬ j = mG i.toNatClampNeg → ¬ zRk mG j.toNatClampNeg = zRk mG (mG i.toNatClampNeg).toNatClampNeg := fun j j1 j2 j3 j4 => zRk_ne ⟨j1, by grind⟩ ⟨l1, by grind⟩ j3 l3 j4
  rcases zFix2 D1 hf with ⟨w, rfl⟩ | ⟨w1, w2, rfl⟩ | ⟨w1, w2, w3, rfl⟩
  · refine ⟨A, B, fun j j1 j2 j3 => ⟨(C j j1 j2 j3).1, zFxS_o i14 (fun q => ?_) (C j j1 j2 j3).2⟩, D1, D2, D3⟩
    by_cases e : fx i.toNatClampNeg = (-1)
    · exact Or.inl e
    · rcases w with w | w
      · exact absurd w e
      · rw [q] at w
        exact Or.inr ⟨w.symm, by show 0 ≤ gfx' (zRk mG j.toNatClampNeg).toNatClampNeg; rw [w]; grind⟩
  · have hf0 : 0 ≤ fx i.toNatClampNeg := by grind
    refine ⟨A, B, fun j j1 j2 j3 => ⟨(C j j1 j2 j3).1, ?_⟩, D1, fun q j j1 j2 j3 => ?_, fun q => ?_⟩
    · show zFxS mG fx (i + 1) j (upd gfx' (zRk mG (mG i.toNatClampNeg).toNatClampNeg).toNatClampNeg (fx i.toNatClampNeg) (zRk mG j.toNatClampNeg).toNatClampNeg)
      rw [zup g0 (nn j j1 j2)]
      by_cases e : j = mG i.toNatClampNeg
      · rw [if_pos (by rw [e])]
        have k := (C j j1 j2 j3).2
        rw [show gfx' (zRk mG j.toNatClampNeg).toNatClampNeg = (-1) by rw [e]; exact w2] at k
        exact zFxS_1 i14 e.symm hf0 k
      · rw [if_neg (inj j j1 j2 j3 e)]
        exact zFxS_o i14 (fun q => absurd q.symm e) (C j j1 j2 j3).2
    · show ¬ upd gfx' (zRk mG (mG i.toNatClampNeg).toNatClampNeg).toNatClampNeg (fx i.toNatClampNeg) (zRk mG j.toNatClampNeg).toNatClampNeg = (-2)
      rw [zup g0 (nn j j1 j2)]
      by_cases e : zRk mG j.toNatClampNeg = zRk mG (mG i.toNatClampNeg).toNatClampNeg
      · rw [if_pos e]
        intro w
        rw [w] at hf0
        exact absurd hf0 (by decide)
      · rw [if_neg e]; exact D2 q j j1 j2 j3
    · obtain ⟨j, j1, j2, j3, j4⟩ := D3 q
      refine ⟨j, j1, j2, j3, ?_⟩
      show upd gfx' (zRk mG (mG i.toNatClampNeg).toNatClampNeg).toNatClampNeg (fx i.toNatClampNeg) (zRk mG j.toNatClampNeg).toNatClampNeg = (-2)
      rw [zup g0 (nn j j1 j2), if_neg ?_]
      · exact j4
      · intro e
        rw [e, w2] at j4
        exact absurd j4 (by decide)
  · have hf0 : 0 ≤ fx i.toNatClampNeg := by grind
    refine ⟨A, B, fun j j1 j2 j3 => ⟨(C j j1 j2 j3).1, ?_⟩, Or.inr rfl, fun q => absurd q (show ¬ (1 : Int32) = 0 by decide), fun _ => ⟨mG i.toNatClampNeg, l1, by grind, l3, ?_⟩⟩
    · show zFxS mG fx (i + 1) j (upd gfx' (zRk mG (mG i.toNatClampNeg).toNatClampNeg).toNatClampNeg (-2) (zRk mG j.toNatClampNeg).toNatClampNeg)
      rw [zup g0 (nn j j1 j2)]
      by_cases e : j = mG i.toNatClampNeg
      · rw [if_pos (by rw [e])]
        have k := (C j j1 j2 j3).2
        rw [← e] at w2 w3
        exact zFxS_2 i14 e.symm hf0 w3 w2 k
      · rw [if_neg (inj j j1 j2 j3 e)]
        exact zFxS_o i14 (fun q => absurd q.symm e) (C j j1 j2 j3).2
    · show upd gfx' (zRk mG (mG i.toNatClampNeg).toNatClampNeg).toNatClampNeg (-2) (zRk mG (mG i.toNatClampNeg).toNatClampNeg).toNatClampNeg = (-2)
      rw [zup g0 g0, if_pos rfl]
set_option maxHeartbeats 4000000 in
theorem zGather {cN : Int32} {jn fx mG a b c : Nat → Int32} {x : Int32 × Int32 × Int32 × (Nat → Int32) × (Nat → Int32) × (Nat → Int32)} (hN : 0 ≤ cN ∧ cN ≤ 14) (hg : zG0 cN jn mG) (hx : ∀ i : Int32, 0 ≤ i → i < cN → (-1) ≤ fx i.toNatClampNeg) (h : fn_X2_gather cN jn a b c fx = some x) : zGp cN x.1 x.2.1 x.2.2.1 x.2.2.2.1 x.2.2.2.2.2 x.2.2.2.2.1 fx mG := by
  unfold fn_X2_gather at h
  refine zl_ip (P := fun x : Int32 × Int32 × Int32 × (Nat → Int32) × (Nat → Int32) × (Nat → Int32) => zGp cN x.1 x.2.1 x.2.2.1 x.2.2.2.1 x.2.2.2.2.2 x.2.2.2.2.1 fx mG) (fun s => 0 ≤ s.1 ∧ s.1 ≤ cN ∧ zGi s.1 s.2.1 s.2.2.1 s.2.2.2.1 s.2.2.2.2.1 s.2.2.2.2.2 fx mG) ?_ _ _ _ ?_ h
  rotate_left
  · exact ⟨(show (0 : Int32) ≤ 0 by decide), hN.1, zGi_0⟩
  intro s back o ⟨H1, H2, HG⟩ hb ho
  obtain ⟨i, cnt, cl, of, gfx, ld⟩ := s
  dsimp only at H1 H2 HG ho hb
  by_cases c1 : cN ≤ i
  · rw [if_pos c1] at ho
    have e : i = cN := by grind
    subst e
    have hc := zRk_b (G := mG) (p := i) H1 hN.2
    rw [← HG.1] at hc
    refine zl_ip (P := fun x : Int32 × Int32 × Int32 × (Nat → Int32) × (Nat → Int32) × (Nat → Int32) => zGp i x.1 x.2.1 x.2.2.1 x.2.2.2.1 x.2.2.2.2.2 x.2.2.2.2.1 fx mG) (fun t => 0 ≤ t.1 ∧ t.1 ≤ cnt ∧ t.2 = zct (fun k => decide (gfx k = (-1))) t.1.toNatClampNeg) ?_ _ _ _ ?_ ho
    rotate_left
    · exact ⟨(show (0 : Int32) ≤ 0 by decide), hc.1, by show (0 : Int32) = zct _ (0 : Int32).toNatClampNeg; rw [zn01.1]; rfl⟩
    intro t back' o' ⟨K1, K2, K3⟩ hb' ho'
    obtain ⟨g, n⟩ := t
    dsimp only at K1 K2 K3 ho' hb'
    by_cases c2 : cnt ≤ g
    · rw [if_pos c2] at ho'
      have e' : g = cnt := by grind
      rw [← Option.some.inj ho']
      exact ⟨HG, by show n = _; rw [K3, e']⟩
    · rw [if_neg c2] at ho'
      obtain ⟨-, ho'⟩ := zg_s ho'
      by_cases d : gfx g.toNatClampNeg = (-1)
      · rw [if_pos d] at ho'
        refine hb' _ _ ?_ ho'
        refine ⟨?_, ?_, ?_⟩
        · show 0 ≤ g + 1
          grind
        · show g + 1 ≤ cnt
          grind
        · show n + 1 = zct _ (g + 1).toNatClampNeg
          rw [zct_t K1 (by grind) (decide_eq_true d), K3]
      · rw [if_neg d] at ho'
        refine hb' _ _ ?_ ho'
        refine ⟨?_, ?_, ?_⟩
        · show 0 ≤ g + 1
          grind
        · show g + 1 ≤ cnt
          grind
        · show n + 0 = zct _ (g + 1).toNatClampNeg
          rw [zct_f K1 (by grind) (fun q => d (of_decide_eq_true q)), K3, Int32.add_zero]
  · rw [if_neg c1] at ho
    obtain ⟨e7, he7, ho⟩ := zb_s ho
    obtain ⟨-, ho⟩ := zg_s ho
    simp only [zj, zn] at ho
    have e8 : upd of i.toNatClampNeg e7 i.toNatClampNeg = e7 := if_pos rfl
    have hi : 0 ≤ i ∧ i < cN := ⟨H1, by grind⟩
    obtain ⟨l1, l2, l3⟩ := hg.1 i hi.1 hi.2
    obtain ⟨G1, G2, G3, G4, G5, G6⟩ := HG
    have hs : ∀ j : Int32, j < i + 1 → j = i ∨ j < i := fun o ho => by grind
    rcases zEarl he7 with ⟨w1, w2⟩ | ⟨j0, j1, j2, j3, j4⟩
    · have hl : mG i.toNatClampNeg = i := by
        by_cases q : mG i.toNatClampNeg = i
        · exact q
        · have hlt : mG i.toNatClampNeg < i := by grind
          exact absurd ((hg.2 (mG i.toNatClampNeg) i l1 (by grind) hi.1 hi.2).mpr l3) (w2 _ l1 hlt)
      rw [if_pos (e8.trans w1)] at ho
      obtain ⟨-, ho⟩ := zg_s ho
      obtain ⟨-, ho⟩ := zg_s ho
      obtain ⟨z, hz, ho⟩ := zb_s ho
      have hr := zRk_b (G := mG) (p := i) H1 (by grind)
      have nn : ∀ j : Int32, 0 ≤ j → j < i + 1 → 0 ≤ zRk mG j.toNatClampNeg := fun j j1 j2 => (zRk_b j1 (by grind)).1
      have ne : ∀ j : Int32, 0 ≤ j → j < i → mG j.toNatClampNeg = j → ¬ zRk mG j.toNatClampNeg = zRk mG i.toNatClampNeg := fun j j1 j2 j3 => zRk_ne ⟨j1, by grind⟩ ⟨H1, by grind⟩ j3 hl (by grind)
      subst G1
      have st := zGstep (cN := cN) (i := i) (c' := zRk mG i.toNatClampNeg + 1) (of' := upd (upd of i.toNatClampNeg e7) i.toNatClampNeg (zRk mG i.toNatClampNeg)) (gfx' := upd gfx (zRk mG i.toNatClampNeg).toNatClampNeg (-1)) (ld' := upd ld (zRk mG i.toNatClampNeg).toNatClampNeg i) hN.2 hi hg (hx i hi.1 hi.2) (zRk_t H1 (by grind) hl).symm (fun j j1 j2 => ?_) (fun j j1 j2 j3 => ?_) G4 (fun q j j1 j2 j3 => ?_) (fun q => ?_) hz
      · refine hb _ _ ?_ ho
        refine ⟨?_, ?_, st⟩
        · show 0 ≤ i + 1
          grind
        · show i + 1 ≤ cN
          grind
      · rw [zup H1 j1, zup H1 j1]
        by_cases q : j = i
        · rw [if_pos q, q, hl]
        · rw [if_neg q, if_neg q]; exact G2 j j1 (by grind)
      · rw [zup hr.1 (nn j j1 j2), zup hr.1 (nn j j1 j2)]
        by_cases q : j = i
        · rw [if_pos (by rw [q]), if_pos (by rw [q])]
          exact ⟨q.symm, Or.inl ⟨rfl, fun o o1 o2 o3 => absurd (hg.1 o o1 (by grind)).2.1 (by rw [o3, q]; grind)⟩⟩
        · have lt : j < i := by grind
          rw [if_neg (ne j j1 lt j3), if_neg (ne j j1 lt j3)]
          exact G3 j j1 lt j3
      · rw [zup hr.1 (nn j j1 j2)]
        by_cases w : j = i
        · rw [if_pos (by rw [w])]; decide
        · have lt : j < i := by grind
          rw [if_neg (ne j j1 lt j3)]; exact G5 q j j1 lt j3
      · obtain ⟨j, j1, j2, j3, j4⟩ := G6 q
        refine ⟨j, j1, by grind, j3, ?_⟩
        rw [zup hr.1 (nn j j1 (by grind)), if_neg (ne j j1 j2 j3)]
        exact j4
    · have hm : mG j0.toNatClampNeg = mG i.toNatClampNeg := (hg.2 j0 i j1 (by grind) hi.1 hi.2).mp j3
      have hj := hg.1 j0 j1 (by grind)
      have hl : ¬ mG i.toNatClampNeg = i := by grind
      have e9 : e7 = zRk mG (mG i.toNatClampNeg).toNatClampNeg := by rw [j4, G2 j0 j1 j2, hm]
      have r7 := (zRk_b (G := mG) (p := mG i.toNatClampNeg) l1 (by grind)).1
      rw [if_neg (by rw [e8, e9]; intro q; rw [q] at r7; exact absurd r7 (by decide))] at ho
      obtain ⟨-, ho⟩ := zg_s ho
      obtain ⟨z, hz, ho⟩ := zb_s ho
      have st := zGstep (cN := cN) (i := i) (c' := cnt) (of' := upd of i.toNatClampNeg e7) (gfx' := gfx) (ld' := ld) hN.2 hi hg (hx i hi.1 hi.2) (by rw [G1]; exact (zRk_f H1 (by grind) hl).symm) (fun j j1 j2 => ?_) (fun j j1 j2 j3 => ?_) G4 (fun q j j1 j2 j3 => ?_) (fun q => ?_) hz
      · refine hb _ _ ?_ ho
        refine ⟨?_, ?_, st⟩
        · show 0 ≤ i + 1
          grind
        · show i + 1 ≤ cN
          grind
      · rw [zup H1 j1]
        by_cases q : j = i
        · rw [if_pos q, q, e9]
        · rw [if_neg q]; exact G2 j j1 (by grind)
      · exact G3 j j1 (by grind) j3
      · exact G5 q j j1 (by grind) j3
      · obtain ⟨j, j1, j2, j3, j4⟩ := G6 q
        exact ⟨j, j1, by grind, j3, j4⟩
/-! what follows of it -/
theorem zGp_eq {cN gc gfr gcl : Int32} {fx jn gof gfx gld mG : Nat → Int32} {i j : Int32} (hN : cN ≤ 14) (hg : zG0 cN jn mG) (G : zGp cN gc gfr gcl gof gfx gld fx mG) (hi : 0 ≤ i ∧ i < cN) (hj : 0 ≤ j ∧ j < cN) : gof i.toNatClampNeg = gof j.toNatClampNeg ↔ mG i.toNatClampNeg = mG j.toNatClampNeg := by
  rw [G.1.2.1 i hi.1 hi.2, G.1.2.1 j hj.1 hj.2]
  obtain ⟨a1, a2, a3⟩ := hg.1 i hi.1 hi.2
  obtain ⟨b1, b2, b3⟩ := hg.1 j hj.1 hj.2
  constructor
  · intro q
    by_cases e : mG i.toNatClampNeg = mG j.toNatClampNeg
    · exact e
    · exact absurd q (zRk_ne ⟨a1, by grind⟩ ⟨b1, by grind⟩ a3 b3 e)
  · intro q
    rw [q]
noncomputable def zFree (cN : Int32) (mG fx : Nat → Int32) (g : Int32) : Prop := ∀ o : Int32, 0 ≤ o → o < cN → mG o.toNatClampNeg = g → fx o.toNatClampNeg = (-1)
theorem zGp_fx {cN gc gfr gcl : Int32} {fx jn gof gfx gld mG : Nat → Int32} {i : Int32} (hN : cN ≤ 14) (hg : zG0 cN jn mG) (G : zGp cN gc gfr gcl gof gfx gld fx mG) (hi : 0 ≤ i ∧ i < cN) : zFxS mG fx cN (mG i.toNatClampNeg) (gfx (gof i.toNatClampNeg).toNatClampNeg) := by
  obtain ⟨a1, a2, a3⟩ := hg.1 i hi.1 hi.2
  rw [G.1.2.1 i hi.1 hi.2]
  exact (G.1.2.2.1 (mG i.toNatClampNeg) a1 (by grind) a3).2
theorem zFxS_f {cN j v : Int32} {mG fx : Nat → Int32} (h : zFxS mG fx cN j v) : v = (-1) ↔ zFree cN mG fx j := by
  rcases h with ⟨a1, a2⟩ | ⟨a1, o, p, b1, b2, b3, b4, b5, b6, b7, b8, b9⟩ | ⟨a1, ⟨o, b1, b2, b3, b4⟩, a2⟩
  · exact ⟨fun _ => a2, fun _ => a1⟩
  · exact ⟨fun q => absurd (a1.symm.trans q) (by decide), fun q => absurd (q o b1 b2 b5) b7⟩
  · refine ⟨fun q => absurd a1 (by rw [q]; decide), fun q => ?_⟩
    rw [← b4]
    exact q o b1 b2 b3
theorem zFreeC (gfx mG : Nat → Int32) : ∀ k : Nat, k ≤ 14 → zct (fun g => decide (gfx g = (-1))) (zRk mG k).toNatClampNeg = zct (fun k => decide (mG k = Int32.ofNat k ∧ gfx (zRk mG k).toNatClampNeg = (-1))) k := by
  intro k
  induction k with
  | zero =>
    intro _
    show zct _ (0 : Int32).toNatClampNeg = 0
    rw [zn01.1]
    rfl
  | succ k ih =>
    intro hk
    have h := ih (by omega)
    have hb := zct_b (fun k => decide (mG k = Int32.ofNat k)) k (by omega)
    have r : 0 ≤ zRk mG k ∧ zRk mG k ≤ 1200 := ⟨Int32.le_iff_toInt_le.mpr (by rw [zi_0]; exact hb.1), Int32.le_iff_toInt_le.mpr (by rw [z1200]; exact Int.le_trans hb.2 (by omega))⟩
    by_cases c : mG k = Int32.ofNat k
    · have e : zRk mG (k + 1) = zRk mG k + 1 := by
        show zRk mG k + (if decide (mG k = Int32.ofNat k) = true then 1 else 0) = _
        rw [if_pos (decide_eq_true c)]
      by_cases d : gfx (zRk mG k).toNatClampNeg = (-1)
      · rw [e, zct_t r.1 r.2 (decide_eq_true d), h]
        show _ = zct _ k + (if decide (mG k = Int32.ofNat k ∧ gfx (zRk mG k).toNatClampNeg = (-1)) = true then 1 else 0)
        rw [if_pos (decide_eq_true ⟨c, d⟩)]
      · rw [e, zct_f r.1 r.2 (fun q => d (of_decide_eq_true q)), h]
        show _ = zct _ k + (if decide (mG k = Int32.ofNat k ∧ gfx (zRk mG k).toNatClampNeg = (-1)) = true then 1 else 0)
        rw [if_neg (fun q => d (of_decide_eq_true q).2)]
        exact (Int32.add_zero _).symm
    · have e : zRk mG (k + 1) = zRk mG k := by
        show zRk mG k + (if decide (mG k = Int32.ofNat k) = true then 1 else 0) = _
        rw [if_neg (fun q => c (of_decide_eq_true q))]
        exact Int32.add_zero _
      rw [e, h]
      show _ = zct _ k + (if decide (mG k = Int32.ofNat k ∧ gfx (zRk mG k).toNatClampNeg = (-1)) = true then 1 else 0)
      rw [if_neg (fun q => c (of_decide_eq_true q).1)]
      exact (Int32.add_zero _).symm
/-! what is told of a TASK -/
theorem zct_lt {b : Nat → Bool} {a c : Int32} (h0 : 0 ≤ a) (h1 : a < c) (h2 : c ≤ 14) (hl : b a.toNatClampNeg = true) : zct b a.toNatClampNeg < zct b c.toNatClampNeg := by
  have e := zct_t h0 (show a ≤ 1200 by grind) hl
  have m : zct b (a + 1).toNatClampNeg ≤ zct b c.toNatClampNeg := zct_m32 (by grind) (by grind) h2
  have r := zct_b32 (b := b) h0 (show a ≤ 14 by grind)
  rw [e] at m
  generalize zct b a.toNatClampNeg = u at m r ⊢
  generalize zct b c.toNatClampNeg = v at m ⊢
  grind
theorem zcnt_loop {b : Nat → Bool} {n x : Int32} {B : Int32 × Int32 → (Int32 × Int32 → Option Int32) → Option Int32} (hn : 0 ≤ n ∧ n ≤ 14) (hB : ∀ (c i : Int32) (back : Int32 × Int32 → Option Int32) (o : Int32), 0 ≤ i → B (c, i) back = some o → (n ≤ i ∧ o = c) ∨ (i < n ∧ b i.toNatClampNeg = true ∧ back (c + 1, i + 1) = some o) ∨ (i < n ∧ ¬ b i.toNatClampNeg = true ∧ back (c + 0, i + 1) = some o)) (h : zl B 100000 (0, 0) = some x) : x = zct b n.toNatClampNeg := by
  refine zl_ip (P := fun x => x = zct b n.toNatClampNeg) (fun s => 0 ≤ s.2 ∧ s.2 ≤ n ∧ s.1 = zct b s.2.toNatClampNeg) ?_ _ _ _ ?_ h
  rotate_left
  · exact ⟨(show (0 : Int32) ≤ 0 by decide), hn.1, by show (0 : Int32) = zct _ (0 : Int32).toNatClampNeg; rw [zn01.1]; rfl⟩
  intro s back o ⟨H1, H2, H3⟩ hb ho
  obtain ⟨c, i⟩ := s
  dsimp only at H1 H2 H3
  rcases hB c i back o H1 ho with ⟨a1, a2⟩ | ⟨a1, a2, a3⟩ | ⟨a1, a2, a3⟩
  · rw [a2, H3, show i = n by grind]
  · refine hb _ _ ?_ a3
    exact ⟨(show 0 ≤ i + 1 by grind), (show i + 1 ≤ n by grind), (show c + 1 = zct b (i + 1).toNatClampNeg by rw [zct_t H1 (by grind) a2, H3])⟩
  · refine hb _ _ ?_ a3
    exact ⟨(show 0 ≤ i + 1 by grind), (show i + 1 ≤ n by grind), (show c + 0 = zct b (i + 1).toNatClampNeg by rw [zct_f H1 (by grind) a2, H3, Int32.add_zero])⟩
theorem zHasN (p n : Int32) : fn_X9_hasNumber p n = some (if 0 ≤ p ∧ p < n then 1 else 0) := by
  unfold fn_X9_hasNumber
  grind
theorem zHasF (p n : Int32) : fn_X9_hasFormat p n = some (if 0 ≤ p ∧ p < n then 1 else 0) := by
  unfold fn_X9_hasFormat
  grind
theorem zIsNum {p : Int32} {f : Nat → Int32} (h : 0 ≤ f 0) : fn_X12_isNumber p f = some (if 0 ≤ p ∧ p < f 0 then 1 else 0) := by
  unfold fn_X12_isNumber
  simp only [zIsIn, zb_some, zn01.1, z64_ge0, z64_ltm _ _ h]
theorem zIsFmt {p : Int32} {f : Nat → Int32} (h : 0 ≤ f 0) : fn_X12_isFormat p f = some (if 0 ≤ p ∧ p < f 0 then 1 else 0) := by
  unfold fn_X12_isFormat
  simp only [zIsIn, zb_some, zn01.1, z64_ge0, z64_ltm _ _ h]
theorem zMade0 {i cN : Int32} {made : Nat → Int32} (hN : cN ≤ 14) (hi : 0 ≤ i ∧ i < cN) : fn_X4_madeOf i 0 cN made = some (made (2 * i + 0).toNatClampNeg) := by
  unfold fn_X4_madeOf
  rw [if_neg (by grind), if_neg (by grind), if_neg (by decide), if_neg (by decide), zg_in 28 (by decide +kernel) (by grind)]
theorem zMade1 {i cN : Int32} {made : Nat → Int32} (hN : cN ≤ 14) (hi : 0 ≤ i ∧ i < cN) : fn_X4_madeOf i 1 cN made = some (made (2 * i + 1).toNatClampNeg) := by
  unfold fn_X4_madeOf
  rw [if_neg (by grind), if_neg (by grind), if_neg (by decide), if_neg (by decide), zg_in 28 (by decide +kernel) (by grind)]
theorem zAmt0 {i cN : Int32} {made : Nat → Int32} (hN : cN ≤ 14) (hi : 0 ≤ i ∧ i < cN) : fn_X4_amountOf i 0 cN made = some (made (2 * i + 0).toNatClampNeg).toInt64 := by
  unfold fn_X4_amountOf
  rw [if_neg (by grind), if_neg (by grind), if_neg (by decide), if_neg (by decide), zg_in 28 (by decide +kernel) (by grind)]
theorem zAmt1 {i cN : Int32} {made : Nat → Int32} (hN : cN ≤ 14) (hi : 0 ≤ i ∧ i < cN) : fn_X4_amountOf i 1 cN made = some (made (2 * i + 1).toNatClampNeg).toInt64 := by
  unfold fn_X4_amountOf
  rw [if_neg (by grind), if_neg (by grind), if_neg (by decide), if_neg (by decide), zg_in 28 (by decide +kernel) (by grind)]
theorem zif1 {c : Prop} [Decidable c] : ((if c then (1 : Int32) else 0) = 0) = ¬ c := by
  by_cases h : c
  · rw [if_pos h]; exact propext ⟨fun q => absurd q (by decide), fun q => absurd h q⟩
  · rw [if_neg h]; exact propext ⟨fun _ => h, fun _ => rfl⟩
theorem zeq_format {cF cc cN inp : Int32} {nF nN stp mst prc al made amt op fx jn lets mF mN mCst mNF mNN mS mM mC mW mO m1 m2 mX mG : Nat → Int32} {mA mB : Nat → Int64} {p1 p2 x y : Int32} (T : zTN cF cc cN inp nF nN stp mst prc al made amt op fx jn lets mF mN mNF mNN mS mM mC mW mCst mO m1 m2 mX mG mA mB) (h1 : fn_X11_format p1 p2 cF stp mst prc = some x) (h2 : fn_X12_format p1 p2 mF mC mM mS = some y) : x = y := by
  obtain ⟨⟨f1, f2, f3⟩, hN, hC, hz, hp, hI, hf, hn, hg⟩ := T
  unfold fn_X11_format at h1
  unfold fn_X12_format at h2
  rw [zHasF, zb_some] at h1
  rw [zIsFmt (by rw [f1]; exact f2), zb_some, f1] at h2
  by_cases c : 0 ≤ p1 ∧ p1 < cF
  · rw [if_neg (by rw [zif1]; exact fun q => q c)] at h1 h2
    obtain ⟨q1, q2, q3, q4, q5⟩ := hf p1 c.1 c.2
    by_cases d0 : p2 = 0
    · rw [if_pos d0] at h1 h2
      obtain ⟨-, h1⟩ := zg_s h1
      obtain ⟨-, h2⟩ := zg_s h2
      rw [← Option.some.inj h1, ← Option.some.inj h2]; exact q2
    · rw [if_neg d0] at h1 h2
      by_cases d1 : p2 = 1
      · rw [if_pos d1] at h1 h2
        obtain ⟨-, h1⟩ := zg_s h1
        obtain ⟨-, h2⟩ := zg_s h2
        rw [← Option.some.inj h1, ← Option.some.inj h2]; exact q3
      · rw [if_neg d1] at h1 h2
        by_cases d2 : p2 = 2
        · rw [if_pos d2] at h1 h2
          obtain ⟨-, h1⟩ := zg_s h1
          obtain ⟨-, h2⟩ := zg_s h2
          rw [← Option.some.inj h1, ← Option.some.inj h2]; exact q4
        · rw [if_neg d2] at h1 h2
          rw [← Option.some.inj h1, ← Option.some.inj h2]
  · rw [if_pos (by rw [zif1]; exact c)] at h1 h2
    rw [← Option.some.inj h1, ← Option.some.inj h2]
theorem zGrPl {mG : Nat → Int32} {p1 x : Int32} (hg : 0 ≤ mG p1.toNatClampNeg ∧ mG p1.toNatClampNeg ≤ 14) (h : fn_X12_groupPlace p1 mG = some x) : x = zRk mG (mG p1.toNatClampNeg).toNatClampNeg := by
  unfold fn_X12_groupPlace at h
  refine zcnt_loop (b := fun k => decide (mG k = Int32.ofNat k)) hg (fun c i back o hi ho => ?_) h
  obtain ⟨-, ho⟩ := zg_s ho
  try dsimp only at ho
  by_cases q : mG p1.toNatClampNeg ≤ i
  · rw [if_pos q] at ho
    exact Or.inl ⟨q, (Option.some.inj ho).symm⟩
  · rw [if_neg q] at ho
    obtain ⟨-, ho⟩ := zg_s ho
    by_cases d : mG i.toNatClampNeg = i
    · rw [if_pos d] at ho
      exact Or.inr (Or.inl ⟨by grind, by rw [zofn' i hi]; exact decide_eq_true d, ho⟩)
    · rw [if_neg d] at ho
      exact Or.inr (Or.inr ⟨by grind, by rw [zofn' i hi]; exact fun w => d (of_decide_eq_true w), ho⟩)
theorem zeq_number {cF cc cN inp gc gfr gcl : Int32} {nF nN stp mst prc al made amt op fx jn lets gof gfx gld mF mN mCst mNF mNN mS mM mC mW mO m1 m2 mX mG : Nat → Int32} {mA mB : Nat → Int64} {p1 p2 x y : Int32} (T : zTN cF cc cN inp nF nN stp mst prc al made amt op fx jn lets mF mN mNF mNN mS mM mC mW mCst mO m1 m2 mX mG mA mB) (G : zGp cN gc gfr gcl gof gfx gld fx mG) (h1 : fn_X11_number p1 p2 cN op made gof fx al = some x) (h2 : fn_X12_number_ p1 p2 mN mO m1 m2 mG mX mW = some y) : x = y := by
  obtain ⟨hF, ⟨n1, n2, n3⟩, hC, hz, hp, hI, hf, hn, hg⟩ := T
  unfold fn_X11_number at h1
  unfold fn_X12_number_ at h2
  rw [zHasN, zb_some] at h1
  rw [zIsNum (by rw [n1]; exact n2), zb_some, n1] at h2
  by_cases c : 0 ≤ p1 ∧ p1 < cN
  · rw [if_neg (by rw [zif1]; exact fun q => q c)] at h1 h2
    obtain ⟨q1, q2, q3, q4, q5, q6, q7⟩ := hn p1 c.1 c.2
    by_cases d0 : p2 = 0
    · rw [if_pos d0] at h1 h2
      obtain ⟨-, h1⟩ := zg_s h1
      obtain ⟨-, h2⟩ := zg_s h2
      rw [← Option.some.inj h1, ← Option.some.inj h2]; exact q2
    · rw [if_neg d0] at h1 h2
      by_cases d1 : p2 = 1
      · rw [if_pos d1] at h1 h2
        rw [zMade0 n3 c, zb_some] at h1
        obtain ⟨-, h2⟩ := zg_s h2
        rw [← Option.some.inj h1, ← Option.some.inj h2]; exact q5
      · rw [if_neg d1] at h1 h2
        by_cases d2 : p2 = 2
        · rw [if_pos d2] at h1 h2
          rw [zMade1 n3 c, zb_some] at h1
          obtain ⟨-, h2⟩ := zg_s h2
          rw [← Option.some.inj h1, ← Option.some.inj h2]; exact q6
        · rw [if_neg d2] at h1 h2
          by_cases d3 : p2 = 3
          · rw [if_pos d3] at h1 h2
            obtain ⟨-, h1⟩ := zg_s h1
            obtain ⟨z, hz, h2⟩ := zb_s h2
            have hgi := hg.1 p1 c.1 c.2
            have e := zGrPl ⟨hgi.1, by grind⟩ hz
            rw [← Option.some.inj h1, ← Option.some.inj h2, e]
            exact G.1.2.1 p1 c.1 c.2
          · rw [if_neg d3] at h1 h2
            by_cases d4 : p2 = 4
            · rw [if_pos d4] at h1 h2
              obtain ⟨-, h1⟩ := zg_s h1
              obtain ⟨-, h2⟩ := zg_s h2
              rw [← Option.some.inj h1, ← Option.some.inj h2]; exact q3
            · rw [if_neg d4] at h1 h2
              by_cases d5 : p2 = 5
              · rw [if_pos d5] at h1 h2
                obtain ⟨-, h1⟩ := zg_s h1
                obtain ⟨-, h2⟩ := zg_s h2
                rw [← Option.some.inj h1, ← Option.some.inj h2]; exact q4
              · rw [if_neg d5] at h1 h2
                rw [← Option.some.inj h1, ← Option.some.inj h2]
  · rw [if_pos (by rw [zif1]; exact c)] at h1 h2
    rw [← Option.some.inj h1, ← Option.some.inj h2]
theorem zeq_told {cF cc cN inp : Int32} {nF nN stp mst prc al made amt op fx jn lets mF mN mCst mNF mNN mS mM mC mW mO m1 m2 mX mG : Nat → Int32} {mA mB : Nat → Int64} {p1 p2 : Int32} {x y : Int64} (T : zTN cF cc cN inp nF nN stp mst prc al made amt op fx jn lets mF mN mNF mNN mS mM mC mW mCst mO m1 m2 mX mG mA mB) (h1 : fn_X11_told p1 p2 cN made amt = some x) (h2 : fn_X12_told p1 p2 mN mO m2 m1 mB mA = some y) : x = y := by
  obtain ⟨hF, ⟨n1, n2, n3⟩, hC, hz, hp, hI, hf, hn, hg⟩ := T
  unfold fn_X11_told at h1
  unfold fn_X12_told at h2
  rw [zHasN, zb_some] at h1
  rw [zIsNum (by rw [n1]; exact n2), zb_some, n1] at h2
  by_cases c : 0 ≤ p1 ∧ p1 < cN
  · rw [if_neg (by rw [zif1]; exact fun q => q c)] at h1 h2
    obtain ⟨q1, q2, q3, q4, q5, q6, q7, q8, q9, q10, q11, q12, q13, q14, q15, q16, q17⟩ := hn p1 c.1 c.2
    simp only [zIsIn, zb_some, z64_ge0, zj] at h2
    have hin : p2.toInt64 ≤ (1 : Int64) ↔ p2 ≤ 1 := by rw [show (1 : Int64) = (1 : Int32).toInt64 by decide +kernel, z64_le]
    simp only [hin] at h2
    by_cases d : 0 ≤ p2 ∧ p2 ≤ 1
    · rw [if_neg (by rw [zif1]; exact fun q => q d)] at h2
      rw [if_neg (by grind), if_pos d.2] at h1
      obtain ⟨-, h2⟩ := zg_s h2
      by_cases d0 : p2 = 0
      · subst d0
        rw [zMade0 n3 c, zb_some, zAmt0 n3 c] at h1
        simp only [if_true, zb_some] at h1 h2
        by_cases e0 : made (2 * p1 + 0).toNatClampNeg = (-1)
        · rw [if_pos e0] at h1
          have h2' : y = mA p1.toNatClampNeg := by
            by_cases w : mO p1.toNatClampNeg = 0
            · rw [if_pos w] at h2
              obtain ⟨-, h2⟩ := zg_s h2
              exact (Option.some.inj h2).symm
            · rw [if_neg w, if_pos (q5.symm.trans e0)] at h2
              obtain ⟨-, h2⟩ := zg_s h2
              exact (Option.some.inj h2).symm
          rw [← Option.some.inj h1, h2', q7]
        · rw [if_neg e0] at h1
          have w : ¬ mO p1.toNatClampNeg = 0 := fun w => e0 (q16 (q2.trans w)).1
          rw [if_neg w, if_neg (fun u => e0 (q5.trans u))] at h2
          rw [← Option.some.inj h1, ← Option.some.inj h2]
      · have d1 : p2 = 1 := by grind
        subst d1
        rw [zMade1 n3 c, zb_some, zAmt1 n3 c] at h1
        simp only [if_neg d0, zb_some] at h1 h2
        by_cases e0 : made (2 * p1 + 1).toNatClampNeg = (-1)
        · rw [if_pos e0] at h1
          have h2' : y = mB p1.toNatClampNeg := by
            by_cases w : mO p1.toNatClampNeg = 0
            · rw [if_pos w] at h2
              obtain ⟨-, h2⟩ := zg_s h2
              exact (Option.some.inj h2).symm
            · rw [if_neg w, if_pos (q6.symm.trans e0)] at h2
              obtain ⟨-, h2⟩ := zg_s h2
              exact (Option.some.inj h2).symm
          rw [← Option.some.inj h1, h2', q8]
        · rw [if_neg e0] at h1
          have w : ¬ mO p1.toNatClampNeg = 0 := fun w => e0 (q16 (q2.trans w)).2.1
          rw [if_neg w, if_neg (fun u => e0 (q6.trans u))] at h2
          rw [← Option.some.inj h1, ← Option.some.inj h2]
    · rw [if_pos (by rw [zif1]; exact d)] at h2
      by_cases e : p2 < 0
      · rw [if_pos e] at h1
        rw [← Option.some.inj h1, ← Option.some.inj h2]
      · rw [if_neg e, if_neg (by grind)] at h1
        rw [← Option.some.inj h1, ← Option.some.inj h2]
  · rw [if_pos (by rw [zif1]; exact c)] at h1 h2
    rw [← Option.some.inj h1, ← Option.some.inj h2]
theorem zDeepOf {p x : Int32} {f : Nat → Int32} (h : fn_X12_deepOf p f = some x) : x = if p = (-1) then 0 else f p.toNatClampNeg := by
  unfold fn_X12_deepOf at h
  by_cases c : p = (-1)
  · rw [if_pos c] at h ⊢
    exact (Option.some.inj h).symm
  · rw [if_neg c] at h ⊢
    obtain ⟨-, h⟩ := zg_s h
    exact (Option.some.inj h).symm
theorem zeq_depth {cF cc cN inp : Int32} {nF nN stp mst prc al made amt op fx jn lets mF mN mCst mNF mNN mS mM mC mW mO m1 m2 mX mG mDp : Nat → Int32} {mA mB : Nat → Int64} {p1 x : Int32} {y : Int32 × (Nat → Int32)} (T : zTN cF cc cN inp nF nN stp mst prc al made amt op fx jn lets mF mN mNF mNN mS mM mC mW mCst mO m1 m2 mX mG mA mB) (h1 : fn_X11_depth p1 cN lets = some x) (h2 : fn_X12_depth p1 mN m1 mDp m2 mO = some y) : x = y.1 := by
  obtain ⟨hF, ⟨n1, n2, n3⟩, hC, hz, hp, hI, hf, hn, hg⟩ := T
  unfold fn_X11_depth at h1
  unfold fn_X12_depth at h2
  rw [zHasN, zb_some] at h1
  rw [zIsNum (by rw [n1]; exact n2), zb_some, n1] at h2
  by_cases c : 0 ≤ p1 ∧ p1 < cN
  · rw [if_neg (by rw [zif1]; exact fun q => q c)] at h1 h2
    obtain ⟨-, h1⟩ := zg_s h1
    rw [← Option.some.inj h1]
    refine zl_ip (P := fun y : Int32 × (Nat → Int32) => lets p1.toNatClampNeg = y.1) (fun s => 0 ≤ s.1 ∧ s.1 ≤ p1 + 1 ∧ ∀ j : Int32, 0 ≤ j → j < s.1 → s.2 j.toNatClampNeg = lets j.toNatClampNeg) ?_ _ _ _ ?_ h2
    rotate_left
    · exact ⟨(show (0 : Int32) ≤ 0 by decide), (show 0 ≤ p1 + 1 by grind), fun j j1 j2 => absurd j2 (by show ¬ j < 0; grind)⟩
    intro s back o ⟨H1, H2, H3⟩ hb ho
    obtain ⟨k, row⟩ := s
    dsimp only at H1 H2 H3 ho
    by_cases e : p1 < k
    · rw [if_pos e] at ho
      obtain ⟨-, ho⟩ := zg_s ho
      rw [← Option.some.inj ho]
      exact (H3 p1 c.1 e).symm
    · rw [if_neg e] at ho
      obtain ⟨-, ho⟩ := zg_s ho
      obtain ⟨a, ha, ho⟩ := zb_s ho
      obtain ⟨b, hb', ho⟩ := zb_s ho
      have ha := zDeepOf ha
      have hb' := zDeepOf hb'
      obtain ⟨q1, q2, q3, q4, q5, q6, q7, q8, q9, q10, q11, q12, q13, q14, q15, q16, q17⟩ := hn k H1 (by grind)
      have ea : a = zLets k made lets 0 := by
        unfold zLets
        rw [ha, ← q5]
        by_cases w : made (2 * k + 0).toNatClampNeg = (-1)
        · rw [if_pos w, if_pos (Or.inl (by rw [w]; decide))]
        · rw [if_neg w, if_neg (by grind), H3 _ (by grind) q12.2]
      have eb : b = zLets k made lets 1 := by
        unfold zLets
        rw [hb', ← q6]
        by_cases w : made (2 * k + 1).toNatClampNeg = (-1)
        · rw [if_pos w, if_pos (Or.inl (by rw [w]; decide))]
        · rw [if_neg w, if_neg (by grind), H3 _ (by grind) q13.2]
      have fin : ∀ v : Int32, v = lets k.toNatClampNeg → back (k + 1, upd row k.toNatClampNeg v) = some o → lets p1.toNatClampNeg = o.1 := by
        intro v hv hbk
        refine hb _ _ ?_ hbk
        refine ⟨(show 0 ≤ k + 1 by grind), (show k + 1 ≤ p1 + 1 by grind), fun j j1 j2 => ?_⟩
        have j2 : j < k + 1 := j2
        show upd row k.toNatClampNeg v j.toNatClampNeg = lets j.toNatClampNeg
        rw [zup H1 j1]
        by_cases w : j = k
        · rw [if_pos w, hv, w]
        · rw [if_neg w]; exact H3 j j1 (by grind)
      unfold zDeep at q17
      rw [← ea, ← eb, q2] at q17
      by_cases w : mO k.toNatClampNeg = 0
      · rw [if_pos w] at ho q17
        obtain ⟨-, ho⟩ := zg_s ho
        exact fin 0 q17.symm ho
      · rw [if_neg w] at ho q17
        by_cases v : a ≤ b
        · rw [if_pos v] at ho
          obtain ⟨-, ho⟩ := zg_s ho
          refine fin (b + 1) ?_ ho
          rw [q17, Int32.add_comm]
          by_cases u : a < b
          · rw [if_pos u]
          · rw [if_neg u, show a = b by grind]
        · rw [if_neg v] at ho
          obtain ⟨-, ho⟩ := zg_s ho
          refine fin (a + 1) ?_ ho
          rw [q17, Int32.add_comm, if_neg (by grind)]
  · rw [if_pos (by rw [zif1]; exact c)] at h1 h2
    rw [← Option.some.inj h1, ← Option.some.inj h2]
/-! has -/
theorem zCnt_c (op : Nat → Int32) : ∀ k : Nat, zCnt op k = zct (fun k => decide (op k = 0)) k := by
  intro k
  induction k with
  | zero => rfl
  | succ k ih =>
    show zCnt op k + (if op k = 0 then 1 else 0) = zct _ k + (if decide (op k = 0) = true then 1 else 0)
    rw [ih]
    by_cases c : op k = 0
    · rw [if_pos c, if_pos (decide_eq_true c)]
    · rw [if_neg c, if_neg (fun q => c (of_decide_eq_true q))]
theorem zIsFree {cN : Int32} {mN mX mG : Nat → Int32} {g x : Int32} (hN : mN 0 = cN ∧ 0 ≤ cN ∧ cN ≤ 14) (h : fn_X12_isFree g mN mG mX = some x) : x = 1 ∧ zFree cN mG mX g ∨ x = 0 ∧ ¬ zFree cN mG mX g := by
  unfold fn_X12_isFree at h
  rw [zn01.1, hN.1] at h
  refine zl_ip (P := fun x => x = 1 ∧ zFree cN mG mX g ∨ x = 0 ∧ ¬ zFree cN mG mX g) (fun s => 0 ≤ s ∧ ∀ o : Int32, 0 ≤ o → o < s → mG o.toNatClampNeg = g → mX o.toNatClampNeg = (-1)) ?_ _ _ _ ?_ h
  rotate_left
  · exact ⟨by decide, fun o o1 o2 => by grind⟩
  intro s back o ⟨H1, H2⟩ hb ho
  have nxt : s < cN → (mG s.toNatClampNeg = g → mX s.toNatClampNeg = (-1)) → back (s + 1) = some o → (o = 1 ∧ zFree cN mG mX g ∨ o = 0 ∧ ¬ zFree cN mG mX g) := by
    intro k1 k2 k3
    refine hb _ _ ?_ k3
    refine ⟨by grind, fun j j1 j2 j3 => ?_⟩
    by_cases q : j = s
    · rw [q] at j3 ⊢; exact k2 j3
    · exact H2 j j1 (by grind) j3
  by_cases c : cN ≤ s
  · rw [if_pos c] at ho
    exact Or.inl ⟨(Option.some.inj ho).symm, fun j j1 j2 j3 => H2 j j1 (by grind) j3⟩
  · rw [if_neg c] at ho
    obtain ⟨-, ho⟩ := zg_s ho
    by_cases d : mG s.toNatClampNeg = g
    · rw [if_pos d] at ho
      by_cases e : mX s.toNatClampNeg = (-1)
      · rw [if_pos e] at ho
        exact nxt (by grind) (fun _ => e) ho
      · rw [if_neg e] at ho
        exact Or.inr ⟨(Option.some.inj ho).symm, fun q => e (q s H1 (by grind) d)⟩
    · rw [if_neg d] at ho
      exact nxt (by grind) (fun q => absurd q d) ho
theorem zFree_c {cN g : Int32} {mG fx mX : Nat → Int32} (h : ∀ i : Int32, 0 ≤ i → i < cN → fx i.toNatClampNeg = mX i.toNatClampNeg) : zFree cN mG fx g ↔ zFree cN mG mX g :=
  ⟨fun q o o1 o2 o3 => (h o o1 o2).symm.trans (q o o1 o2 o3), fun q o o1 o2 o3 => (h o o1 o2).trans (q o o1 o2 o3)⟩
noncomputable def zFk (gfx mG : Nat → Int32) : Nat → Int32 := zct (fun k => decide (mG k = Int32.ofNat k ∧ gfx (zRk mG k).toNatClampNeg = (-1)))
theorem zFk_b {gfx mG : Nat → Int32} {k : Int32} (h0 : 0 ≤ k) (h : mG k.toNatClampNeg = k) (h2 : gfx (zRk mG k.toNatClampNeg).toNatClampNeg = (-1)) : decide (mG k.toNatClampNeg = Int32.ofNat k.toNatClampNeg ∧ gfx (zRk mG k.toNatClampNeg).toNatClampNeg = (-1)) = true := by
  rw [zofn' k h0]
  exact decide_eq_true ⟨h, h2⟩
theorem zLaysFree {cF cc cN inp gc gfr gcl : Int32} {nF nN stp mst prc al made amt op fx jn lets gof gfx gld mF mN mCst mNF mNN mS mM mC mW mO m1 m2 mX mG mFr : Nat → Int32} {mA mB : Nat → Int64} {x : Int32 × (Nat → Int32)} (T : zTN cF cc cN inp nF nN stp mst prc al made amt op fx jn lets mF mN mNF mNN mS mM mC mW mCst mO m1 m2 mX mG mA mB) (G : zGp cN gc gfr gcl gof gfx gld fx mG) (h : fn_X12_laysFree mN mG mX mFr = some x) : x.1 = zFk gfx mG cN.toNatClampNeg ∧ (∀ k : Int32, 0 ≤ k → k < cN → mG k.toNatClampNeg = k → gfx (zRk mG k.toNatClampNeg).toNatClampNeg = (-1) → x.2 (zFk gfx mG k.toNatClampNeg).toNatClampNeg = k) := by
  obtain ⟨hF, hN, hC, hz, hp, hI, hf, hn, hg⟩ := T
  have hfr : ∀ k : Int32, 0 ≤ k → k < cN → mG k.toNatClampNeg = k → (gfx (zRk mG k.toNatClampNeg).toNatClampNeg = (-1) ↔ zFree cN mG mX k) := fun k k1 k2 k3 => (zFxS_f (G.1.2.2.1 k k1 k2 k3).2).trans (zFree_c (fun i i1 i2 => (hn i i1 i2).2.2.1))
  unfold fn_X12_laysFree at h
  rw [zn01.1, hN.1] at h
  refine zl_ip (P := fun x : Int32 × (Nat → Int32) => x.1 = zFk gfx mG cN.toNatClampNeg ∧ (∀ k : Int32, 0 ≤ k → k < cN → mG k.toNatClampNeg = k → gfx (zRk mG k.toNatClampNeg).toNatClampNeg = (-1) → x.2 (zFk gfx mG k.toNatClampNeg).toNatClampNeg = k)) (fun s => 0 ≤ s.1 ∧ s.1 ≤ cN ∧ s.2.1 = zFk gfx mG s.1.toNatClampNeg ∧ (∀ k : Int32, 0 ≤ k → k < s.1 → mG k.toNatClampNeg = k → gfx (zRk mG k.toNatClampNeg).toNatClampNeg = (-1) → s.2.2 (zFk gfx mG k.toNatClampNeg).toNatClampNeg = k)) ?_ _ _ _ ?_ h
  rotate_left
  · exact ⟨(show (0 : Int32) ≤ 0 by decide), hN.2.1, by show (0 : Int32) = zct _ (0 : Int32).toNatClampNeg; rw [zn01.1]; rfl, fun k k1 k2 => absurd k2 (by show ¬ k < 0; grind)⟩
  intro s back o ⟨H1, H2, H3, H4⟩ hb ho
  obtain ⟨k, n, row⟩ := s
  dsimp only at H1 H2 H3 H4 ho
  by_cases c : cN ≤ k
  · rw [if_pos c] at ho
    have e : k = cN := by grind
    subst e
    rw [← Option.some.inj ho]
    exact ⟨H3, H4⟩
  · rw [if_neg c] at ho
    obtain ⟨-, ho⟩ := zg_s ho
    have hk : k < cN := by grind
    have skip : ¬ (mG k.toNatClampNeg = k ∧ gfx (zRk mG k.toNatClampNeg).toNatClampNeg = (-1)) → back (k + 1, n, row) = some o → (o.1 = zFk gfx mG cN.toNatClampNeg ∧ (∀ k : Int32, 0 ≤ k → k < cN → mG k.toNatClampNeg = k → gfx (zRk mG k.toNatClampNeg).toNatClampNeg = (-1) → o.2 (zFk gfx mG k.toNatClampNeg).toNatClampNeg = k)) := by
      intro w hbk
      refine hb _ _ ?_ hbk
      refine ⟨(show 0 ≤ k + 1 by grind), (show k + 1 ≤ cN by grind), ?_, fun j j1 j2 j3 j4 => ?_⟩
      · show n = zct _ (k + 1).toNatClampNeg
        rw [zct_f H1 (by grind) (by rw [zofn' k H1]; exact fun q => w (of_decide_eq_true q))]
        exact H3
      · have j2 : j < k + 1 := j2
        by_cases q : j = k
        · rw [q] at j3 j4; exact absurd ⟨j3, j4⟩ w
        · exact H4 j j1 (by grind) j3 j4
    by_cases d : mG k.toNatClampNeg = k
    · rw [if_pos d] at ho
      obtain ⟨z, hz, ho⟩ := zb_s ho
      rcases zIsFree hN hz with ⟨z1, z2⟩ | ⟨z1, z2⟩
      · rw [if_neg (by rw [z1]; decide)] at ho
        obtain ⟨-, ho⟩ := zg_s ho
        have g1 := (hfr k H1 hk d).mpr z2
        refine hb _ _ ?_ ho
        refine ⟨(show 0 ≤ k + 1 by grind), (show k + 1 ≤ cN by grind), ?_, fun j j1 j2 j3 j4 => ?_⟩
        · show n + 1 = zct _ (k + 1).toNatClampNeg
          rw [zct_t H1 (by grind) (zFk_b H1 d g1), H3]
          rfl
        · have j2 : j < k + 1 := j2
          have nk : 0 ≤ zFk gfx mG k.toNatClampNeg := (zct_b32 H1 (show k ≤ 14 by grind)).1
          have nj : 0 ≤ zFk gfx mG j.toNatClampNeg := (zct_b32 j1 (show j ≤ 14 by grind)).1
          show upd row n.toNatClampNeg k (zFk gfx mG j.toNatClampNeg).toNatClampNeg = j
          rw [H3, zup nk nj]
          by_cases q : j = k
          · rw [if_pos (by rw [q]), q]
          · have lt : zFk gfx mG j.toNatClampNeg < zFk gfx mG k.toNatClampNeg := zct_lt j1 (show j < k by grind) (by grind) (zFk_b j1 j3 j4)
            rw [if_neg (fun w => by rw [w] at lt; exact absurd lt (by grind))]
            exact H4 j j1 (by grind) j3 j4
      · rw [if_pos z1] at ho
        exact skip (fun q => z2 ((hfr k H1 hk d).mp q.2)) ho
    · rw [if_neg d] at ho
      exact skip (fun q => d q.1) ho
theorem zInputs {mN mO : Nat → Int32} {x : Int32} (hN : 0 ≤ mN 0 ∧ mN 0 ≤ 14) (h : fn_X12_inputs mN mO = some x) : x = zct (fun k => decide (mO k = 0)) (mN 0).toNatClampNeg := by
  unfold fn_X12_inputs at h
  rw [zn01.1] at h
  refine zcnt_loop hN (fun c i back o hi ho => ?_) h
  try dsimp only at ho
  by_cases q : mN 0 ≤ i
  · rw [if_pos q] at ho
    exact Or.inl ⟨q, (Option.some.inj ho).symm⟩
  · rw [if_neg q] at ho
    obtain ⟨-, ho⟩ := zg_s ho
    by_cases d : mO i.toNatClampNeg = 0
    · rw [if_pos d] at ho
      exact Or.inr (Or.inl ⟨by grind, decide_eq_true d, ho⟩)
    · rw [if_neg d] at ho
      exact Or.inr (Or.inr ⟨by grind, fun w => d (of_decide_eq_true w), ho⟩)
theorem zAnswers {mN mW : Nat → Int32} {x : Int32} (hN : 0 ≤ mN 0 ∧ mN 0 ≤ 14) (h : fn_X12_answers mN mW = some x) : x = zct (fun k => decide (¬ mW k = (-1))) (mN 0).toNatClampNeg := by
  unfold fn_X12_answers at h
  rw [zn01.1] at h
  refine zcnt_loop hN (fun c i back o hi ho => ?_) h
  try dsimp only at ho
  by_cases q : mN 0 ≤ i
  · rw [if_pos q] at ho
    exact Or.inl ⟨q, (Option.some.inj ho).symm⟩
  · rw [if_neg q] at ho
    obtain ⟨-, ho⟩ := zg_s ho
    by_cases d : mW i.toNatClampNeg = (-1)
    · rw [if_pos d] at ho
      exact Or.inr (Or.inr ⟨by grind, fun w => (of_decide_eq_true w) d, ho⟩)
    · rw [if_neg d] at ho
      exact Or.inr (Or.inl ⟨by grind, decide_eq_true d, ho⟩)
theorem zGroupsM {mN mG : Nat → Int32} {x : Int32} (hN : 0 ≤ mN 0 ∧ mN 0 ≤ 14) (h : fn_X12_groups mN mG = some x) : x = zRk mG (mN 0).toNatClampNeg := by
  unfold fn_X12_groups at h
  rw [zn01.1] at h
  refine zcnt_loop (b := fun k => decide (mG k = Int32.ofNat k)) hN (fun c i back o hi ho => ?_) h
  try dsimp only at ho
  by_cases q : mN 0 ≤ i
  · rw [if_pos q] at ho
    exact Or.inl ⟨q, (Option.some.inj ho).symm⟩
  · rw [if_neg q] at ho
    obtain ⟨-, ho⟩ := zg_s ho
    by_cases d : mG i.toNatClampNeg = i
    · rw [if_pos d] at ho
      exact Or.inr (Or.inl ⟨by grind, by rw [zofn' i hi]; exact decide_eq_true d, ho⟩)
    · rw [if_neg d] at ho
      exact Or.inr (Or.inr ⟨by grind, by rw [zofn' i hi]; exact fun w => d (of_decide_eq_true w), ho⟩)
theorem zCountA {n p x : Int32} {al : Nat → Int32} (hp : 0 ≤ p ∧ p ≤ n ∧ n ≤ 14) (h : fn_X4_countAnswers p n al = some x) : x = zct (fun k => decide (¬ al k = (-1))) p.toNatClampNeg := by
  unfold fn_X4_countAnswers at h
  refine zcnt_loop ⟨hp.1, by grind⟩ (fun c i back o hi ho => ?_) h
  try dsimp only at ho
  by_cases q : p ≤ i
  · rw [if_pos q] at ho
    exact Or.inl ⟨q, (Option.some.inj ho).symm⟩
  · rw [if_neg q, if_neg (by grind)] at ho
    obtain ⟨-, ho⟩ := zg_s ho
    by_cases d : al i.toNatClampNeg = (-1)
    · rw [if_pos d] at ho
      exact Or.inr (Or.inr ⟨by grind, fun w => (of_decide_eq_true w) d, ho⟩)
    · rw [if_neg d] at ho
      exact Or.inr (Or.inl ⟨by grind, decide_eq_true d, ho⟩)
theorem zeq_has {cF cc cN inp gc gfr gcl mSd sd : Int32} {nF nN stp mst prc al made amt op fx jn lets gof gfx gld mF mN mCst mNF mNN mS mM mC mW mO m1 m2 mX mG mFr : Nat → Int32} {mA mB : Nat → Int64} {p1 x : Int32} {y : Int32 × Int32 × (Nat → Int32)} (T : zTN cF cc cN inp nF nN stp mst prc al made amt op fx jn lets mF mN mNF mNN mS mM mC mW mCst mO m1 m2 mX mG mA mB) (G : zGp cN gc gfr gcl gof gfx gld fx mG) (hs : sd = mSd) (h1 : fn_X11_has p1 sd cF cc cN inp al gc gfr = some x) (h2 : fn_X12_has p1 mSd mN mG mX mFr mF mO mW mCst = some y) : x = y.1 := by
  have T0 := T
  obtain ⟨hF, ⟨n1, n2, n3⟩, hC, hz, hp, hI, hf, hn, hg⟩ := T
  have hN0 : 0 ≤ mN 0 ∧ mN 0 ≤ 14 := by rw [n1]; exact ⟨n2, n3⟩
  unfold fn_X11_has at h1
  unfold fn_X12_has at h2
  obtain ⟨w, hw, h2⟩ := zb_s h2
  rw [zn01.1] at h2
  by_cases d0 : p1 = 0
  · rw [if_pos d0] at h1 h2
    rw [← Option.some.inj h1, ← Option.some.inj h2]; exact n1.symm
  · rw [if_neg d0] at h1 h2
    by_cases d1 : p1 = 1
    · rw [if_pos d1] at h1 h2
      rw [← Option.some.inj h1, ← Option.some.inj h2]; exact hF.1.symm
    · rw [if_neg d1] at h1 h2
      by_cases d2 : p1 = 2
      · rw [if_pos d2] at h1 h2
        obtain ⟨z, hz2, h2⟩ := zb_s h2
        have e := zInputs hN0 hz2
        rw [← Option.some.inj h1, ← Option.some.inj h2, hI, zCnt_c]
        show _ = z
        rw [e, n1]
        refine zct_c _ (fun j hj => ?_)
        obtain ⟨j1, j2, j3⟩ := zof n2 hj
        have := (hn _ j1 j2).2.1
        rw [j3] at this
        rw [this]
      · rw [if_neg d2] at h1 h2
        by_cases d3 : p1 = 3
        · rw [if_pos d3] at h1 h2
          obtain ⟨z, hz2, h2⟩ := zb_s h2
          obtain ⟨z', hz1, h1⟩ := zb_s h1
          have e := zAnswers hN0 hz2
          have e' := zCountA ⟨n2, by grind, n3⟩ hz1
          rw [← Option.some.inj h1, ← Option.some.inj h2]
          show z' = z
          rw [e, e', n1]
          refine zct_c _ (fun j hj => ?_)
          obtain ⟨j1, j2, j3⟩ := zof n2 hj
          have := (hn _ j1 j2).2.2.2.1
          rw [j3] at this
          rw [this]
        · rw [if_neg d3] at h1 h2
          by_cases d4 : p1 = 4
          · rw [if_pos d4] at h1 h2
            obtain ⟨z, hz2, h2⟩ := zb_s h2
            have e := zGroupsM hN0 hz2
            rw [← Option.some.inj h1, ← Option.some.inj h2]
            show gc = z
            rw [e, n1]; exact G.1.1
          · rw [if_neg d4] at h1 h2
            by_cases d5 : p1 = 5
            · rw [if_pos d5] at h1 h2
              have e := (zLaysFree T0 G hw).1
              rw [← Option.some.inj h1, ← Option.some.inj h2]
              show gfr = w.1
              rw [e, G.2, G.1.1]
              have l14 : cN.toNatClampNeg ≤ 14 := by have := zcle n2 n3; rw [show (14 : Int32).toNatClampNeg = 14 by decide +kernel] at this; exact this
              exact zFreeC gfx mG cN.toNatClampNeg l14
            · rw [if_neg d5] at h1 h2
              by_cases d6 : p1 = 6
              · rw [if_pos d6] at h1 h2
                by_cases e : mN 0 = 0
                · rw [if_pos e] at h2
                  rw [← Option.some.inj h1, ← Option.some.inj h2]; exact hz (n1.symm.trans e)
                · rw [if_neg e] at h2
                  rw [← Option.some.inj h1, ← Option.some.inj h2]; exact hC.1.symm
              · rw [if_neg d6] at h1 h2
                by_cases d7 : p1 = 7
                · rw [if_pos d7] at h1 h2
                  rw [← Option.some.inj h1, ← Option.some.inj h2]; exact hs
                · rw [if_neg d7] at h1 h2
                  rw [← Option.some.inj h1, ← Option.some.inj h2]
/-! letters of a NAME; what is made from a NUMBER -/
theorem zq {n d q r : Int} (hd : 0 < d) (h : n = q * d + r) (h0 : 0 ≤ r) (h1 : r < d) : n / d = q := by
  rw [h, Int.add_comm, Int.add_mul_ediv_right _ _ (by omega), Int.ediv_eq_zero_of_lt h0 h1, Int.zero_add]
theorem zshr {c s : Int32} (j : Nat) (D : Int) (hD : ((2 ^ j : Nat) : Int) = D) (hs : (c >>> s).toBitVec = c.toBitVec.sshiftRight j) (h : 0 ≤ c.toInt) : ((c >>> s) &&& 31).toInt = (c.toInt / D) % 32 := by
  rw [← hD]
  have hm : c.toBitVec.msb = false := by
    rw [BitVec.msb_eq_toInt]
    exact decide_eq_false (by show ¬ c.toInt < 0; omega)
  have e : ((c >>> s) &&& 31).toBitVec.toNat = (c.toBitVec.toNat / 2 ^ j) % 32 := by
    rw [Int32.toBitVec_and, BitVec.toNat_and, hs, BitVec.sshiftRight_eq_of_msb_false hm, BitVec.toNat_ushiftRight, Nat.shiftRight_eq_div_pow, show (31 : Int32).toBitVec.toNat = 2 ^ 5 - 1 by decide +kernel]
    exact Nat.and_two_pow_sub_one_eq_mod _ 5
  have hl := Nat.mod_lt (c.toBitVec.toNat / 2 ^ j) (show 0 < 32 by decide)
  rw [ztoI e (by omega), ← zposN h, Int.natCast_emod, Int.natCast_ediv]
  rfl
theorem zNm_let {c m k : Int32} (h : zNm c m) (h0 : 0 ≤ k) (h1 : k < 6) : (c >>> ((5 * (5 - k)) &&& 31)) &&& 31 = (m >>> ((5 * k) &&& 31)) &&& 31 := by
  obtain ⟨l, hl, hc, hm⟩ := h
  have b0 := hl 0
  have b1 := hl 1
  have b2 := hl 2
  have b3 := hl 3
  have b4 := hl 4
  have b5 := hl 5
  unfold zCV at hc
  unfold zMV at hm
  have hc0 : 0 ≤ c.toInt := by omega
  have hm0 : 0 ≤ m.toInt := by omega
  have hk : k = 0 ∨ k = 1 ∨ k = 2 ∨ k = 3 ∨ k = 4 ∨ k = 5 := by grind
  apply Int32.toInt_inj.mp
  rcases hk with rfl | rfl | rfl | rfl | rfl | rfl
  · rw [show (5 * (5 - 0) &&& 31 : Int32) = 25 by decide +kernel, show (5 * 0 &&& 31 : Int32) = 0 by decide +kernel, zshr 25 33554432 (by decide) rfl hc0, zshr 0 1 (by decide) rfl hm0, zq (q := l 0 * 1) (r := l 1 * 1048576 + l 2 * 32768 + l 3 * 1024 + l 4 * 32 + l 5 * 1) (by decide) (by rw [hc]; omega) (by omega) (by omega), zq (q := l 0 * 1 + l 1 * 32 + l 2 * 1024 + l 3 * 32768 + l 4 * 1048576 + l 5 * 33554432) (r := 0) (by decide) (by rw [hm]; omega) (by omega) (by omega)]
    omega
  · rw [show (5 * (5 - 1) &&& 31 : Int32) = 20 by decide +kernel, show (5 * 1 &&& 31 : Int32) = 5 by decide +kernel, zshr 20 1048576 (by decide) rfl hc0, zshr 5 32 (by decide) rfl hm0, zq (q := l 0 * 32 + l 1 * 1) (r := l 2 * 32768 + l 3 * 1024 + l 4 * 32 + l 5 * 1) (by decide) (by rw [hc]; omega) (by omega) (by omega), zq (q := l 1 * 1 + l 2 * 32 + l 3 * 1024 + l 4 * 32768 + l 5 * 1048576) (r := l 0 * 1) (by decide) (by rw [hm]; omega) (by omega) (by omega)]
    omega
  · rw [show (5 * (5 - 2) &&& 31 : Int32) = 15 by decide +kernel, show (5 * 2 &&& 31 : Int32) = 10 by decide +kernel, zshr 15 32768 (by decide) rfl hc0, zshr 10 1024 (by decide) rfl hm0, zq (q := l 0 * 1024 + l 1 * 32 + l 2 * 1) (r := l 3 * 1024 + l 4 * 32 + l 5 * 1) (by decide) (by rw [hc]; omega) (by omega) (by omega), zq (q := l 2 * 1 + l 3 * 32 + l 4 * 1024 + l 5 * 32768) (r := l 0 * 1 + l 1 * 32) (by decide) (by rw [hm]; omega) (by omega) (by omega)]
    omega
  · rw [show (5 * (5 - 3) &&& 31 : Int32) = 10 by decide +kernel, show (5 * 3 &&& 31 : Int32) = 15 by decide +kernel, zshr 10 1024 (by decide) rfl hc0, zshr 15 32768 (by decide) rfl hm0, zq (q := l 0 * 32768 + l 1 * 1024 + l 2 * 32 + l 3 * 1) (r := l 4 * 32 + l 5 * 1) (by decide) (by rw [hc]; omega) (by omega) (by omega), zq (q := l 3 * 1 + l 4 * 32 + l 5 * 1024) (r := l 0 * 1 + l 1 * 32 + l 2 * 1024) (by decide) (by rw [hm]; omega) (by omega) (by omega)]
    omega
  · rw [show (5 * (5 - 4) &&& 31 : Int32) = 5 by decide +kernel, show (5 * 4 &&& 31 : Int32) = 20 by decide +kernel, zshr 5 32 (by decide) rfl hc0, zshr 20 1048576 (by decide) rfl hm0, zq (q := l 0 * 1048576 + l 1 * 32768 + l 2 * 1024 + l 3 * 32 + l 4 * 1) (r := l 5 * 1) (by decide) (by rw [hc]; omega) (by omega) (by omega), zq (q := l 4 * 1 + l 5 * 32) (r := l 0 * 1 + l 1 * 32 + l 2 * 1024 + l 3 * 32768) (by decide) (by rw [hm]; omega) (by omega) (by omega)]
    omega
  · rw [show (5 * (5 - 5) &&& 31 : Int32) = 0 by decide +kernel, show (5 * 5 &&& 31 : Int32) = 25 by decide +kernel, zshr 0 1 (by decide) rfl hc0, zshr 25 33554432 (by decide) rfl hm0, zq (q := l 0 * 33554432 + l 1 * 1048576 + l 2 * 32768 + l 3 * 1024 + l 4 * 32 + l 5 * 1) (r := 0) (by decide) (by rw [hc]; omega) (by omega) (by omega), zq (q := l 5 * 1) (r := l 0 * 1 + l 1 * 32 + l 2 * 1024 + l 3 * 32768 + l 4 * 1048576) (by decide) (by rw [hm]; omega) (by omega) (by omega)]
    omega
theorem zeq_letter {cF cc cN inp : Int32} {nF nN stp mst prc al made amt op fx jn lets mF mN mCst mNF mNN mS mM mC mW mO m1 m2 mX mG : Nat → Int32} {mA mB : Nat → Int64} {p1 p2 p3 x y : Int32} (T : zTN cF cc cN inp nF nN stp mst prc al made amt op fx jn lets mF mN mNF mNN mS mM mC mW mCst mO m1 m2 mX mG mA mB) (h1 : fn_X11_letter p1 p2 p3 cF cN nN nF = some x) (h2 : fn_X12_letter p1 p2 p3 mN mF mNN mNF = some y) : x = y := by
  obtain ⟨⟨f1, f2, f3⟩, ⟨n1, n2, n3⟩, hC, hz, hp, hI, hf, hn, hg⟩ := T
  unfold fn_X11_letter at h1
  unfold fn_X12_letter at h2
  have hin : p3.toInt64 ≤ (5 : Int64) ↔ p3 ≤ 5 := by rw [show (5 : Int64) = (5 : Int32).toInt64 by decide +kernel, z64_le]
  simp only [zj, zHasN, zHasF, zb_some, fn_X11_letterOf] at h1
  simp only [zj, zIsNum (show 0 ≤ mN 0 by rw [n1]; exact n2), zIsFmt (show 0 ≤ mF 0 by rw [f1]; exact f2), zb_some, zIsIn, z64_ge0, hin, n1, f1] at h2
  by_cases c : p2 = 0
  · simp only [if_pos c] at h1 h2
    by_cases d : 0 ≤ p1 ∧ p1 < cN
    · rw [if_neg (by rw [zif1]; exact fun q => q d)] at h1 h2
      by_cases e : 0 ≤ p3 ∧ p3 ≤ 5
      · rw [if_neg (by rw [zif1]; exact fun q => q e)] at h2
        rw [if_neg (by grind), if_pos (by grind)] at h1
        obtain ⟨-, h1⟩ := zg_s h1
        obtain ⟨-, h2⟩ := zg_s h2
        rw [← Option.some.inj h1, ← Option.some.inj h2]
        exact zNm_let (hn p1 d.1 d.2).1 e.1 (by grind)
      · rw [if_pos (by rw [zif1]; exact e)] at h2
        have h1' : x = (-1) := by
          by_cases w : p3 < 0
          · rw [if_pos w] at h1; exact (Option.some.inj h1).symm
          · rw [if_neg w, if_neg (by grind)] at h1; exact (Option.some.inj h1).symm
        rw [h1', ← Option.some.inj h2]
    · rw [if_pos (by rw [zif1]; exact d)] at h1 h2
      rw [← Option.some.inj h1, ← Option.some.inj h2]
  · simp only [if_neg c] at h1 h2
    by_cases d : 0 ≤ p1 ∧ p1 < cF
    · rw [if_neg (by rw [zif1]; exact fun q => q d)] at h1 h2
      by_cases e : 0 ≤ p3 ∧ p3 ≤ 5
      · rw [if_neg (by rw [zif1]; exact fun q => q e)] at h2
        rw [if_neg (by grind), if_pos (by grind)] at h1
        obtain ⟨-, h1⟩ := zg_s h1
        obtain ⟨-, h2⟩ := zg_s h2
        rw [← Option.some.inj h1, ← Option.some.inj h2]
        exact zNm_let (hf p1 d.1 d.2).1 e.1 (by grind)
      · rw [if_pos (by rw [zif1]; exact e)] at h2
        have h1' : x = (-1) := by
          by_cases w : p3 < 0
          · rw [if_pos w] at h1; exact (Option.some.inj h1).symm
          · rw [if_neg w, if_neg (by grind)] at h1; exact (Option.some.inj h1).symm
        rw [h1', ← Option.some.inj h2]
    · rw [if_pos (by rw [zif1]; exact d)] at h1 h2
      rw [← Option.some.inj h1, ← Option.some.inj h2]
/-! sets of NUMBERS as bits -/
noncomputable def zbt (x : Int32) (k : Nat) : Bool := x.toBitVec.getLsbD k
theorem zp14 {p : Int32} (h : 0 ≤ p ∧ p < 14) : ((p &&& 31).toBitVec.smod 32).toNat = p.toNatClampNeg ∧ (1 <<< (p &&& 31) : Int32).toBitVec = BitVec.twoPow 32 p.toNatClampNeg ∧ p.toNatClampNeg < 32 := by
  have hk : p = 0 ∨ p = 1 ∨ p = 2 ∨ p = 3 ∨ p = 4 ∨ p = 5 ∨ p = 6 ∨ p = 7 ∨ p = 8 ∨ p = 9 ∨ p = 10 ∨ p = 11 ∨ p = 12 ∨ p = 13 := by grind
  rcases hk with rfl | rfl | rfl | rfl | rfl | rfl | rfl | rfl | rfl | rfl | rfl | rfl | rfl | rfl <;> decide +kernel
theorem zbt_sh (x p : Int32) : (x >>> (p &&& 31)).toBitVec = x.toBitVec.sshiftRight ((p &&& 31).toBitVec.smod 32).toNat := rfl
theorem zbt_and {x p : Int32} (h : 0 ≤ p ∧ p < 14) : ((x >>> (p &&& 31)) &&& 1 = 1) ↔ zbt x p.toNatClampNeg = true := by
  obtain ⟨e1, e2, e3⟩ := zp14 h
  have e4 : ((x >>> (p &&& 31)) &&& 1).toBitVec = x.toBitVec.sshiftRight p.toNatClampNeg &&& 1#32 := by
    rw [Int32.toBitVec_and, zbt_sh, e1]
    rfl
  have e5 : ∀ i : Nat, (x.toBitVec.sshiftRight p.toNatClampNeg &&& 1#32).getLsbD i = (decide (i = 0) && zbt x p.toNatClampNeg) := by
    intro i
    rw [BitVec.getLsbD_and, BitVec.getLsbD_sshiftRight, BitVec.getLsbD_one]
    by_cases q : i = 0
    · subst q
      simp [zbt, e3]
    · simp [q]
  constructor
  · intro q
    have q1 : (x.toBitVec.sshiftRight p.toNatClampNeg &&& 1#32) = 1#32 := by rw [← e4, q]; rfl
    have q2 := e5 0
    rw [q1] at q2
    simpa using q2.symm
  · intro q
    apply Int32.toBitVec_inj.mp
    rw [e4]
    show _ = 1#32
    apply BitVec.eq_of_getLsbD_eq
    intro i hi
    rw [e5 i, q, BitVec.getLsbD_one]
    simp
theorem zbt_or {x p : Int32} (h : 0 ≤ p ∧ p < 14) (k : Nat) : zbt (x ||| (1 <<< (p &&& 31))) k = (zbt x k || decide (p.toNatClampNeg = k)) := by
  obtain ⟨e1, e2, e3⟩ := zp14 h
  show (x ||| (1 <<< (p &&& 31))).toBitVec.getLsbD k = _
  rw [Int32.toBitVec_or, e2, BitVec.getLsbD_or, BitVec.getLsbD_twoPow]
  simp [zbt, e3]
theorem zbt_fin {x p : Int32} (h : 0 ≤ p ∧ p < 14) (h0 : zbt x p.toNatClampNeg = false) : (x ||| (1 <<< (p &&& 31))) &&& ((1 <<< (p &&& 31)) ^^^ (-1)) = x := by
  obtain ⟨e1, e2, e3⟩ := zp14 h
  apply Int32.toBitVec_inj.mp
  rw [Int32.toBitVec_and, Int32.toBitVec_or, Int32.toBitVec_xor, e2, show (-1 : Int32).toBitVec = BitVec.allOnes 32 by decide +kernel]
  apply BitVec.eq_of_getLsbD_eq
  intro i hi
  rw [BitVec.getLsbD_and, BitVec.getLsbD_or, BitVec.getLsbD_xor, BitVec.getLsbD_twoPow, BitVec.getLsbD_allOnes]
  by_cases q : p.toNatClampNeg = i
  · subst q
    have h0 : x.toBitVec.getLsbD p.toNatClampNeg = false := h0
    rw [h0]
    simp [hi]
  · simp [q, hi]
theorem zAmong {p b a : Int32} (ha : (-1) ≤ a ∧ a < 14) : fn_X4_isAmong p b a = some (if a = p ∨ 0 ≤ a ∧ zbt b a.toNatClampNeg = true then 1 else 0) := by
  unfold fn_X4_isAmong
  by_cases c : a = p
  · rw [if_pos c, if_pos (Or.inl c)]
  · rw [if_neg c]
    by_cases d : a < 0
    · rw [if_pos d, if_neg (by rintro (q | ⟨q, _⟩); exact c q; grind)]
    · rw [if_neg d]
      have hb := zbt_and (x := b) (p := a) ⟨by grind, ha.2⟩
      by_cases e : ((b >>> (a &&& 31)) &&& 1) = 1
      · rw [if_pos e, if_pos (Or.inr ⟨by grind, hb.mp e⟩)]
      · rw [if_neg e, if_neg (by rintro (q | ⟨_, q⟩); exact c q; exact e (hb.mpr q))]
theorem zeq_uses {cF cc cN inp : Int32} {nF nN stp mst prc al made amt op fx jn lets mF mN mCst mNF mNN mS mM mC mW mO m1 m2 mX mG : Nat → Int32} {mA mB : Nat → Int64} {p1 x y : Int32} (T : zTN cF cc cN inp nF nN stp mst prc al made amt op fx jn lets mF mN mNF mNN mS mM mC mW mCst mO m1 m2 mX mG mA mB) (h1 : fn_X11_uses p1 cN made = some x) (h2 : fn_X12_uses p1 mN m1 m2 = some y) : x = y := by
  obtain ⟨hF, ⟨n1, n2, n3⟩, hC, hz, hp, hI, hf, hn, hg⟩ := T
  unfold fn_X11_uses at h1
  unfold fn_X12_uses at h2
  rw [zHasN, zb_some] at h1
  rw [zIsNum (by rw [n1]; exact n2), zb_some, n1] at h2
  by_cases c : 0 ≤ p1 ∧ p1 < cN
  · rw [if_neg (by rw [zif1]; exact fun q => q c)] at h1 h2
    have hp14 : 0 ≤ p1 ∧ p1 < 14 := ⟨c.1, by grind⟩
    obtain ⟨w, hw, h1⟩ := zb_s h1
    rw [← Option.some.inj h1]
    unfold fn_X4_madeFrom at hw
    rw [zn01.1, n1] at h2
    refine zl_ip2 (P := fun w y => w = y) (fun s t => t.2 = s.2 ∧ p1 < s.2 ∧ s.2 ≤ 14 ∧ t.1 = s.1 ||| (1 <<< (p1 &&& 31)) ∧ zbt s.1 p1.toNatClampNeg = false) ?_ _ _ _ _ _ _ ?_ hw h2
    rotate_left
    · exact ⟨rfl, (show p1 < p1 + 1 by grind), (show p1 + 1 ≤ 14 by grind), (show (1 <<< (p1 &&& 31) : Int32) = (0 : Int32) ||| (1 <<< (p1 &&& 31)) from Int32.zero_or.symm), (show zbt 0 p1.toNatClampNeg = false by unfold zbt; simp)⟩
    intro s t k1 k2 o1 o2 ⟨R1, R2, R3, R4, R5⟩ hb ho1 ho2
    obtain ⟨bits, k⟩ := s
    obtain ⟨set, k'⟩ := t
    dsimp only at R1 R2 R3 R4 R5 ho1 ho2
    subst R1
    by_cases d : cN ≤ k'
    · rw [if_pos d] at ho1 ho2
      rw [← Option.some.inj ho1, ← Option.some.inj ho2, R4]
      exact (zbt_fin hp14 R5).symm
    · rw [if_neg d] at ho1 ho2
      have hk : 0 ≤ k' ∧ k' < cN := ⟨by grind, by grind⟩
      have hk14 : 0 ≤ k' ∧ k' < 14 := ⟨hk.1, by grind⟩
      obtain ⟨q1, q2, q3, q4, q5, q6, q7, q8, q9, q10, q11, q12, q13, q14⟩ := hn k' hk.1 hk.2
      obtain ⟨-, ho2⟩ := zg_s ho2
      simp only [zj] at ho2
      rw [zMade0 n3 hk, zb_some, zAmong ⟨q12.1, by grind⟩, zb_some, zMade1 n3 hk, zb_some, zAmong ⟨q13.1, by grind⟩, zb_some] at ho1
      have bit : ∀ a : Int32, (-1) ≤ a → a < k' → ¬ a = (-1) → (((set >>> (a &&& 31)) &&& 1 = 1) ↔ (a = p1 ∨ 0 ≤ a ∧ zbt bits a.toNatClampNeg = true)) := by
        intro a a1 a2 a3
        have a4 : 0 ≤ a ∧ a < 14 := ⟨by grind, by grind⟩
        rw [zbt_and a4, R4, zbt_or hp14]
        constructor
        · intro q
          simp only [Bool.or_eq_true, decide_eq_true_eq] at q
          rcases q with q | q
          · exact Or.inr ⟨a4.1, q⟩
          · exact Or.inl (zinj _ _ hp14.1 a4.1 q).symm
        · intro q
          simp only [Bool.or_eq_true, decide_eq_true_eq]
          rcases q with q | ⟨_, q⟩
          · exact Or.inr (by rw [q])
          · exact Or.inl q
      have yes : k1 (bits ||| (1 <<< (k' &&& 31)), k' + 1) = some o1 → k2 (set ||| (1 <<< (k' &&& 31)), k' + 1) = some o2 → o1 = o2 := by
        intro w1 w2
        refine hb _ _ _ _ ?_ w1 w2
        refine ⟨rfl, (show p1 < k' + 1 by grind), (show k' + 1 ≤ 14 by grind), ?_, ?_⟩
        · show set ||| (1 <<< (k' &&& 31)) = bits ||| (1 <<< (k' &&& 31)) ||| (1 <<< (p1 &&& 31))
          rw [R4, Int32.or_assoc, Int32.or_assoc, Int32.or_comm (1 <<< (p1 &&& 31))]
        · show zbt (bits ||| (1 <<< (k' &&& 31))) p1.toNatClampNeg = false
          rw [zbt_or hk14, R5]
          have : ¬ k'.toNatClampNeg = p1.toNatClampNeg := fun q => by have := zinj _ _ hk.1 c.1 q; grind
          simp [this]
      have no : k1 (bits, k' + 1) = some o1 → k2 (set ||| 0, k' + 1) = some o2 → o1 = o2 := by
        intro w1 w2
        rw [Int32.or_zero] at w2
        refine hb _ _ _ _ ?_ w1 w2
        exact ⟨rfl, (show p1 < k' + 1 by grind), (show k' + 1 ≤ 14 by grind), R4, R5⟩
      rw [← q5, ← q6] at ho2
      have h10 : ¬ (1 : Int32) = 0 := by decide
      have hneg : (-1 : Int32) = p1 → False := fun q => by grind
      -- the second WHAT, once the first is none
      have snd : (if (if made (2 * k' + 1).toNatClampNeg = p1 ∨ 0 ≤ made (2 * k' + 1).toNatClampNeg ∧ zbt bits (made (2 * k' + 1).toNatClampNeg).toNatClampNeg = true then (1 : Int32) else 0) = 0 then k1 (bits, k' + 1) else k1 (bits ||| (1 <<< (k' &&& 31)), k' + 1)) = some o1 → (zg k' 28 (if made (2 * k' + 1).toNatClampNeg = (-1) then (if (0 : Int32) = 0 then k2 (set ||| 0, k' + 1) else k2 (set ||| (1 <<< (k' &&& 31)), k' + 1)) else (if ((set >>> (made (2 * k' + 1).toNatClampNeg &&& 31)) &&& 1) = 1 then (if (1 : Int32) = 0 then k2 (set ||| 0, k' + 1) else k2 (set ||| (1 <<< (k' &&& 31)), k' + 1)) else (if (0 : Int32) = 0 then k2 (set ||| 0, k' + 1) else k2 (set ||| (1 <<< (k' &&& 31)), k' + 1))))) = some o2 → o1 = o2 := by
        intro w1 w2
        obtain ⟨-, w2⟩ := zg_s w2
        rw [if_neg h10, if_pos rfl] at w2
        by_cases e : made (2 * k' + 1).toNatClampNeg = (-1)
        · rw [if_pos e] at w2
          rw [if_pos (by rw [zif1, e]; rintro (q | ⟨q, _⟩); exact hneg q; exact absurd q (by decide))] at w1
          exact no w1 w2
        · rw [if_neg e] at w2
          have hbit := bit _ q13.1 q13.2 e
          by_cases u : made (2 * k' + 1).toNatClampNeg = p1 ∨ 0 ≤ made (2 * k' + 1).toNatClampNeg ∧ zbt bits (made (2 * k' + 1).toNatClampNeg).toNatClampNeg = true
          · rw [if_pos (hbit.mpr u)] at w2
            rw [if_neg (by rw [zif1]; exact fun q => q u)] at w1
            exact yes w1 w2
          · rw [if_neg (fun q => u (hbit.mp q))] at w2
            rw [if_pos (by rw [zif1]; exact u)] at w1
            exact no w1 w2
      by_cases e : made (2 * k' + 0).toNatClampNeg = (-1)
      · rw [if_pos e] at ho2
        rw [if_pos (by rw [zif1, e]; rintro (q | ⟨q, _⟩); exact hneg q; exact absurd q (by decide))] at ho1
        exact snd ho1 ho2
      · rw [if_neg e] at ho2
        have hbit := bit _ q12.1 q12.2 e
        by_cases u : made (2 * k' + 0).toNatClampNeg = p1 ∨ 0 ≤ made (2 * k' + 0).toNatClampNeg ∧ zbt bits (made (2 * k' + 0).toNatClampNeg).toNatClampNeg = true
        · rw [if_pos (hbit.mpr u), if_neg h10] at ho2
          rw [if_neg (by rw [zif1]; exact fun q => q u)] at ho1
          exact yes ho1 ho2
        · rw [if_neg (fun q => u (hbit.mp q))] at ho2
          rw [if_pos (by rw [zif1]; exact u)] at ho1
          exact snd ho1 ho2
  · rw [if_pos (by rw [zif1]; exact c)] at h1 h2
    rw [← Option.some.inj h1, ← Option.some.inj h2]
/-! numbers of 64 bits: least, greatest, amount, products by 1000 -/
noncomputable def zLs (a b : Int64) : Int64 := if b < a then b else a
noncomputable def zMx (a b : Int64) : Int64 := if b < a then a else b
noncomputable def zAb (a : Int64) : Int64 := if 0 < a then a else -a
theorem zLes (a b : Int64) : fn_X12_lesser a b = some (zLs a b) := by
  unfold fn_X12_lesser zLs
  by_cases c : b ≤ a
  · rw [if_pos ((lg_cmp_ge a b).mpr c)]
    by_cases d : b < a
    · rw [if_pos d]
    · rw [if_neg d, show b = a by grind]
  · rw [if_neg (fun q => c ((lg_cmp_ge a b).mp q)), if_neg (by grind)]
theorem zGre (a b : Int64) : fn_X12_greater a b = some (zMx a b) := by
  unfold fn_X12_greater zMx
  by_cases c : a ≤ b
  · rw [if_pos ((lg_cmp_le a b).mpr c), if_neg (by grind)]
  · rw [if_neg (fun q => c ((lg_cmp_le a b).mp q)), if_pos (by grind)]
theorem zAmo (a : Int64) : fn_X12_amount a = some (zAb a) := by
  unfold fn_X12_amount zAb
  by_cases c : 0 ≤ a
  · rw [if_pos ((lg_cmp_ge a 0).mpr c)]
    by_cases d : 0 < a
    · rw [if_pos d]
    · rw [if_neg d, show a = 0 by grind]
      rfl
  · rw [if_neg (fun q => c ((lg_cmp_ge a 0).mp q)), if_neg (by grind)]
theorem zMx_comm (a b : Int64) : zMx a b = zMx b a := by
  unfold zMx
  grind
noncomputable def zFd (x y : Int64) : Int64 := if x - x / y * y = 0 then x / y else if 0 ≤ x then x / y else x / y - 1
theorem zxor {x y : Int64} (hy : 0 ≤ y) : 0 ≤ x ^^^ y ↔ 0 ≤ x := by
  have z0 : (0 : Int64).toInt = 0 := by decide +kernel
  have key : ∀ v : Int64, 0 ≤ v ↔ v.toBitVec.msb = false := by
    intro v
    rw [Int64.le_iff_toInt_le, z0, BitVec.msb_eq_toInt]
    show 0 ≤ v.toBitVec.toInt ↔ _
    constructor
    · intro q; exact decide_eq_false (by omega)
    · intro q; have := of_decide_eq_false q; omega
  rw [key, key x, Int64.toBitVec_xor, BitVec.msb_xor, (key y).mp hy]
  simp
theorem zFdM {x y : Int64} (hy : ¬ y = 0) : fn_X12_floor x y = some (zFd x y) := by
  unfold fn_X12_floor zd zFd
  rw [if_neg hy, if_neg hy]
  by_cases c : x - x / y * y = 0
  · rw [if_pos ((lg_cmp_eq _ _).mpr c), if_pos c]
  · rw [if_neg (fun q => c ((lg_cmp_eq _ _).mp q)), if_neg c]
    by_cases d : 0 ≤ x
    · rw [if_pos ((lg_cmp_ge _ _).mpr d), if_pos d]
    · rw [if_neg (fun q => d ((lg_cmp_ge _ _).mp q)), if_neg d]
theorem zFdJ {x y : Int64} (hy : 1 ≤ y) : fn_J9_floorDiv_f86c9 x y = some (zFd x y) := by
  unfold fn_J9_floorDiv_f86c9 zd zFd
  rw [if_neg (show ¬ y = 0 by grind)]
  have hx := zxor (x := x) (y := y) (by grind)
  have e : (x / y * y = x) ↔ (x - x / y * y = 0) := by
    generalize x / y * y = z
    constructor
    · intro q; rw [q]; exact Int64.sub_self x
    · intro q; grind
  by_cases d : 0 ≤ x
  · rw [if_pos ((lg_cmp_ge _ _).mpr (hx.mpr d)), if_pos d]
    by_cases c : x - x / y * y = 0
    · rw [if_pos c]
    · rw [if_neg c]
  · rw [if_neg (fun q => d (hx.mp ((lg_cmp_ge _ _).mp q))), if_neg d]
    by_cases c : x - x / y * y = 0
    · rw [if_pos ((lg_cmp_eq _ _).mpr (e.mpr c)), if_pos c]
    · rw [if_neg (fun q => c (e.mp ((lg_cmp_eq _ _).mp q))), if_neg c]
noncomputable def zPr (a b s : Int64) : Int64 := zFd (2 * a * b + 1000 * s) (2000 * s) * s
noncomputable def zRd' (a s : Int64) : Int64 := zFd (2 * a + s) (2 * s) * s
theorem zst {s : Int64} (h : 1 ≤ s ∧ s ≤ 1000000) : 1 ≤ 1000 * s ∧ 1 ≤ 2000 * s ∧ 1 ≤ 2 * s := by
  refine ⟨?_, ?_, ?_⟩ <;> grind
theorem zPrM {a b s : Int64} (h : 1 ≤ s ∧ s ≤ 1000000) : fn_X12_roundedProduct a b s = some (zPr a b s) := by
  unfold fn_X12_roundedProduct
  have := (zst h).2.1
  rw [zFdM (show ¬ 2000 * s = 0 by grind), zb_some]
  rfl
theorem zNeJ {a d s : Int64} (h1 : 1 ≤ d * s) (h2 : 1 ≤ 2 * (d * s)) : fn_X11_nearest a d s = some (zFd (2 * a + d * s) (2 * (d * s)) * s) := by
  unfold fn_X11_nearest
  rw [if_pos ((lg_cmp_ge _ _).mpr h1), zFdJ h2, zb_some]
theorem zPrJ {a b s : Int64} (h : 1 ≤ s ∧ s ≤ 1000000) : fn_X11_nearest (a * b) 1000 s = some (zPr a b s) := by
  have e : 2 * (1000 * s) = 2000 * s := by rw [← Int64.mul_assoc]; rfl
  obtain ⟨h1, h2, -⟩ := zst h
  rw [zNeJ h1 (by rw [e]; exact h2), e, ← Int64.mul_assoc]
  rfl
noncomputable def zAp (p : Int32) (a b s : Int64) : Int64 := if p = 1 then a + b else if p = 2 then a - b else if p = 3 then zPr a b s else if p = 4 then zLs a b else zMx a b
theorem zApJ {p : Int32} {a b s : Int64} (hp : 1 ≤ p ∧ p ≤ 5) (h : 1 ≤ s ∧ s ≤ 1000000) : fn_X11_apply p a b s = some (zAp p a b s) := by
  unfold fn_X11_apply zAp
  rw [zPrJ h, zb_some]
  by_cases c1 : p = 1
  · rw [if_pos c1, if_pos c1]
  · rw [if_neg c1, if_neg c1]
    by_cases c2 : p = 2
    · rw [if_pos c2, if_pos c2]
    · rw [if_neg c2, if_neg c2]
      by_cases c3 : p = 3
      · rw [if_pos c3, if_pos c3]
      · rw [if_neg c3, if_neg c3]
        by_cases c4 : p = 4
        · rw [if_pos c4, if_pos c4]; rfl
        · rw [if_neg c4, if_neg c4, if_pos (by grind)]; rfl
theorem zApM {p : Int32} {a b s : Int64} (h : 1 ≤ s ∧ s ≤ 1000000) : fn_X12_two p a b s = some (zAp p a b s) := by
  unfold fn_X12_two zAp
  rw [zPrM h, zLes, zGre, zb_some, zb_some, zb_some]
  by_cases c1 : p = 1
  · rw [if_pos c1, if_pos c1]
  · rw [if_neg c1, if_neg c1]
    by_cases c2 : p = 2
    · rw [if_pos c2, if_pos c2]
    · rw [if_neg c2, if_neg c2]
      by_cases c3 : p = 3
      · rw [if_pos c3, if_pos c3]
      · rw [if_neg c3, if_neg c3]
        by_cases c4 : p = 4
        · rw [if_pos c4, if_pos c4]
        · rw [if_neg c4, if_neg c4]
theorem zone64 : (1 : Int64) ≤ 1 ∧ (1 : Int64) ≤ 1000000 := by decide
/-! both ends of a NUMBER, by those of its WHATS -/
noncomputable def zVal (m a : Int32) (row : Nat → Int64) : Int64 := if m = (-1) then a.toInt64 else row m.toNatClampNeg
noncomputable def zLoV (p : Int32) (a b c d : Int64) : Int64 := if p = 2 then a - d else if p = 3 then zLs (zLs (zPr a c 1) (zPr a d 1)) (zLs (zPr b c 1) (zPr b d 1)) else zAp p a c 1
noncomputable def zHiV (p : Int32) (a b c d : Int64) : Int64 := if p = 2 then b - c else if p = 3 then zMx (zMx (zPr a c 1) (zPr a d 1)) (zMx (zPr b c 1) (zPr b d 1)) else zAp p b d 1
noncomputable def zLw (i : Int32) (op made amt : Nat → Int32) (lo hi : Nat → Int64) : Int64 := if op i.toNatClampNeg = 0 then (amt (2 * i + 0).toNatClampNeg).toInt64 else zLoV (op i.toNatClampNeg) (zVal (made (2 * i + 0).toNatClampNeg) (amt (2 * i + 0).toNatClampNeg) lo) (zVal (made (2 * i + 0).toNatClampNeg) (amt (2 * i + 0).toNatClampNeg) hi) (zVal (made (2 * i + 1).toNatClampNeg) (amt (2 * i + 1).toNatClampNeg) lo) (zVal (made (2 * i + 1).toNatClampNeg) (amt (2 * i + 1).toNatClampNeg) hi)
noncomputable def zHg (i : Int32) (op made amt : Nat → Int32) (lo hi : Nat → Int64) : Int64 := if op i.toNatClampNeg = 0 then (amt (2 * i + 1).toNatClampNeg).toInt64 else zHiV (op i.toNatClampNeg) (zVal (made (2 * i + 0).toNatClampNeg) (amt (2 * i + 0).toNatClampNeg) lo) (zVal (made (2 * i + 0).toNatClampNeg) (amt (2 * i + 0).toNatClampNeg) hi) (zVal (made (2 * i + 1).toNatClampNeg) (amt (2 * i + 1).toNatClampNeg) lo) (zVal (made (2 * i + 1).toNatClampNeg) (amt (2 * i + 1).toNatClampNeg) hi)
/-- what the class needs to know of one NUMBER -/
noncomputable def zOk (i : Int32) (op made : Nat → Int32) : Prop := (0 ≤ op i.toNatClampNeg ∧ op i.toNatClampNeg ≤ 5) ∧ ((-1) ≤ made (2 * i + 0).toNatClampNeg ∧ made (2 * i + 0).toNatClampNeg < i) ∧ ((-1) ≤ made (2 * i + 1).toNatClampNeg ∧ made (2 * i + 1).toNatClampNeg < i) ∧ (op i.toNatClampNeg = 0 → made (2 * i + 0).toNatClampNeg = (-1) ∧ made (2 * i + 1).toNatClampNeg = (-1))
theorem zOk_of {i cF : Int32} {nN op fx al made amt lets mNN mO m1 m2 mX mW : Nat → Int32} {mA mB : Nat → Int64} (h : zN01 i cF nN op fx al made amt lets mNN mO m1 m2 mX mW mA mB) : zOk i op made := by
  obtain ⟨q1, q2, q3, q4, q5, q6, q7, q8, q9, q10, q11, q12, q13, q14, q15, q16, q17⟩ := h
  exact ⟨q9, q12, q13, fun w => ⟨(q16 w).1, (q16 w).2.1⟩⟩
theorem zLowJ0 {i cN : Int32} {made amt : Nat → Int32} {lo : Nat → Int64} (hN : cN ≤ 14) (hi : 0 ≤ i ∧ i < cN) (hm : (-1) ≤ made (2 * i + 0).toNatClampNeg ∧ made (2 * i + 0).toNatClampNeg < i) : fn_X6_lowOf i 0 cN made amt lo = some (zVal (made (2 * i + 0).toNatClampNeg) (amt (2 * i + 0).toNatClampNeg) lo) := by
  unfold fn_X6_lowOf zVal
  rw [zMade0 hN hi, zb_some, zAmt0 hN hi, zb_some]
  by_cases c : made (2 * i + 0).toNatClampNeg = (-1)
  · rw [if_pos (by rw [c]; decide), if_pos c]
  · rw [if_neg (by grind), if_neg (by grind), if_neg c, zg_in 14 (by decide +kernel) ⟨by grind, by grind⟩]
theorem zLowJ1 {i cN : Int32} {made amt : Nat → Int32} {lo : Nat → Int64} (hN : cN ≤ 14) (hi : 0 ≤ i ∧ i < cN) (hm : (-1) ≤ made (2 * i + 1).toNatClampNeg ∧ made (2 * i + 1).toNatClampNeg < i) : fn_X6_lowOf i 1 cN made amt lo = some (zVal (made (2 * i + 1).toNatClampNeg) (amt (2 * i + 1).toNatClampNeg) lo) := by
  unfold fn_X6_lowOf zVal
  rw [zMade1 hN hi, zb_some, zAmt1 hN hi, zb_some]
  by_cases c : made (2 * i + 1).toNatClampNeg = (-1)
  · rw [if_pos (by rw [c]; decide), if_pos c]
  · rw [if_neg (by grind), if_neg (by grind), if_neg c, zg_in 14 (by decide +kernel) ⟨by grind, by grind⟩]
theorem zHighJ {p2 p3 v1_0 : Int32} {f2 f3 : Nat → Int32} {f4 : Nat → Int64} : fn_X6_highOf p2 p3 v1_0 f2 f3 f4 = fn_X6_lowOf p2 p3 v1_0 f2 f3 f4 := rfl
theorem zEndJ {i cN g : Int32} {a : Int64} {made amt : Nat → Int32} {lo hi : Nat → Int64} (hN : cN ≤ 14) (hi' : 0 ≤ i ∧ i < cN) (hm : (-1) ≤ made (2 * i + 1).toNatClampNeg ∧ made (2 * i + 1).toNatClampNeg < i) : fn_X6_endProduct i a g cN made amt lo hi = some (if g = 0 then zLs (zPr a (zVal (made (2 * i + 1).toNatClampNeg) (amt (2 * i + 1).toNatClampNeg) lo) 1) (zPr a (zVal (made (2 * i + 1).toNatClampNeg) (amt (2 * i + 1).toNatClampNeg) hi) 1) else zMx (zPr a (zVal (made (2 * i + 1).toNatClampNeg) (amt (2 * i + 1).toNatClampNeg) lo) 1) (zPr a (zVal (made (2 * i + 1).toNatClampNeg) (amt (2 * i + 1).toNatClampNeg) hi) 1)) := by
  have e : ∀ x : Int64, fn_X11_apply 3 a x 1 = some (zPr a x 1) := fun x => by rw [zApJ (by decide) zone64]; rfl
  unfold fn_X6_endProduct
  simp only [zHighJ, zLowJ1 hN hi' hm, zb_some, e]
  by_cases c : g = 0
  · rw [if_pos c, if_pos c]; rfl
  · rw [if_neg c, if_neg c]; rfl
theorem zLwJ {i cN : Int32} {op made amt : Nat → Int32} {lo hi : Nat → Int64} (hN : cN ≤ 14) (hi' : 0 ≤ i ∧ i < cN) (hk : zOk i op made) : fn_X6_lowest i cN op made amt lo hi = some (zLw i op made amt lo hi) := by
  obtain ⟨k1, k2, k3, k4⟩ := hk
  unfold fn_X6_lowest zLw zLoV
  rw [zg_in 14 (by decide +kernel) ⟨hi'.1, by grind⟩]
  simp only [zHighJ, zLowJ0 hN hi' k2, zLowJ1 hN hi' k3, zEndJ hN hi' k3, zb_some, if_true]
  by_cases c0 : op i.toNatClampNeg = 0
  · rw [if_pos c0, if_pos c0]
    unfold zVal
    rw [if_pos (k4 c0).1]
  · rw [if_neg c0, if_neg c0]
    have h1 : 1 ≤ op i.toNatClampNeg ∧ op i.toNatClampNeg ≤ 5 := ⟨by grind, k1.2⟩
    simp only [zApJ h1 zone64, zb_some]
    by_cases c3 : op i.toNatClampNeg = 3
    · rw [if_pos c3, if_neg (show ¬ op i.toNatClampNeg = 2 by rw [c3]; decide), if_pos c3]; rfl
    · rw [if_neg c3]
      by_cases c2 : op i.toNatClampNeg = 2
      · rw [if_pos c2, if_pos c2]
        unfold zAp
        rw [if_neg (show ¬ op i.toNatClampNeg = 1 by rw [c2]; decide), if_pos c2]
      · rw [if_neg c2, if_neg c2, if_neg c3]
theorem zHgJ {i cN : Int32} {op made amt : Nat → Int32} {lo hi : Nat → Int64} (hN : cN ≤ 14) (hi' : 0 ≤ i ∧ i < cN) (hk : zOk i op made) : fn_X6_highest i cN op made amt hi lo = some (zHg i op made amt lo hi) := by
  obtain ⟨k1, k2, k3, k4⟩ := hk
  have h10 : ¬ (1 : Int32) = 0 := by decide
  unfold fn_X6_highest zHg zHiV
  rw [zg_in 14 (by decide +kernel) ⟨hi'.1, by grind⟩]
  simp only [zHighJ, zLowJ0 hN hi' k2, zLowJ1 hN hi' k3, zEndJ hN hi' k3, zb_some, if_neg h10]
  by_cases c0 : op i.toNatClampNeg = 0
  · rw [if_pos c0, if_pos c0]
    unfold zVal
    rw [if_pos (k4 c0).2]
  · rw [if_neg c0, if_neg c0]
    have h1 : 1 ≤ op i.toNatClampNeg ∧ op i.toNatClampNeg ≤ 5 := ⟨by grind, k1.2⟩
    simp only [zApJ h1 zone64, zb_some]
    by_cases c3 : op i.toNatClampNeg = 3
    · rw [if_pos c3, if_neg (show ¬ op i.toNatClampNeg = 2 by rw [c3]; decide), if_pos c3]
      exact congrArg some (zMx_comm _ _)
    · rw [if_neg c3]
      by_cases c2 : op i.toNatClampNeg = 2
      · rw [if_pos c2, if_pos c2]
        unfold zAp
        rw [if_neg (show ¬ op i.toNatClampNeg = 1 by rw [c2]; decide), if_pos c2]
      · rw [if_neg c2, if_neg c2, if_neg c3]
/-! the reference's -/
theorem zLowM {k s : Int32} {m1 m2 : Nat → Int32} {lo mA mB : Nat → Int64} {x : Int64} (h : fn_X12_lowOf k s m1 m2 lo mA mB = some x) : x = if s = 0 then (if m1 k.toNatClampNeg = (-1) then mA k.toNatClampNeg else lo (m1 k.toNatClampNeg).toNatClampNeg) else (if m2 k.toNatClampNeg = (-1) then mB k.toNatClampNeg else lo (m2 k.toNatClampNeg).toNatClampNeg) := by
  unfold fn_X12_lowOf at h
  simp only [zj] at h
  by_cases c : s = 0
  · rw [if_pos c] at h ⊢
    obtain ⟨-, h⟩ := zg_s h
    by_cases d : m1 k.toNatClampNeg = (-1)
    · rw [if_pos d, if_pos c] at h
      rw [if_pos d]
      obtain ⟨-, h⟩ := zg_s h
      exact (Option.some.inj h).symm
    · rw [if_neg d] at h ⊢
      obtain ⟨-, h⟩ := zg_s h
      exact (Option.some.inj h).symm
  · rw [if_neg c] at h ⊢
    obtain ⟨-, h⟩ := zg_s h
    by_cases d : m2 k.toNatClampNeg = (-1)
    · rw [if_pos d, if_neg c] at h
      rw [if_pos d]
      obtain ⟨-, h⟩ := zg_s h
      exact (Option.some.inj h).symm
    · rw [if_neg d] at h ⊢
      obtain ⟨-, h⟩ := zg_s h
      exact (Option.some.inj h).symm
theorem zHighM {k s : Int32} {m1 m2 : Nat → Int32} {lo mA mB : Nat → Int64} : fn_X12_highOf k s m1 m2 lo mA mB = fn_X12_lowOf k s m1 m2 lo mA mB := rfl
theorem zLaysR {k wn cF : Int32} {wb : Int64} {nN op fx al made amt lets mNN mO m1 m2 mX mW : Nat → Int32} {mA mB lo hi : Nat → Int64} {x : (Nat → Int64) × (Nat → Int64)} (hk : zN01 k cF nN op fx al made amt lets mNN mO m1 m2 mX mW mA mB) (h : fn_X12_laysRange k wn wb mO m1 m2 lo mA mB hi = some x) : x = (vp_updL lo k.toNatClampNeg (zLw k op made amt lo hi - (if k = wn ∧ op k.toNatClampNeg = 0 then wb else 0)), vp_updL hi k.toNatClampNeg (zHg k op made amt lo hi + (if k = wn ∧ op k.toNatClampNeg = 0 then wb else 0))) := by
  obtain ⟨q1, q2, q3, q4, q5, q6, q7, q8, q9, q10, q11, q12, q13, q14, q15, q16, q17⟩ := hk
  have e0 : ∀ row : Nat → Int64, (if m1 k.toNatClampNeg = (-1) then mA k.toNatClampNeg else row (m1 k.toNatClampNeg).toNatClampNeg) = zVal (made (2 * k + 0).toNatClampNeg) (amt (2 * k + 0).toNatClampNeg) row := fun row => by rw [← q5, q7]; rfl
  have e1 : ∀ row : Nat → Int64, (if m2 k.toNatClampNeg = (-1) then mB k.toNatClampNeg else row (m2 k.toNatClampNeg).toNatClampNeg) = zVal (made (2 * k + 1).toNatClampNeg) (amt (2 * k + 1).toNatClampNeg) row := fun row => by rw [← q6, q8]; rfl
  have h10 : ¬ (1 : Int32) = 0 := by decide
  unfold fn_X12_laysRange at h
  obtain ⟨-, h⟩ := zg_s h
  simp only [zj, zHighM] at h
  unfold zLw zHg zLoV zHiV
  rw [q2]
  by_cases c0 : mO k.toNatClampNeg = 0
  · rw [if_pos c0] at h
    by_cases d : k = wn
    · rw [if_pos d] at h
      obtain ⟨-, h⟩ := zg_s h
      obtain ⟨-, h⟩ := zg_s h
      rw [← Option.some.inj h, if_pos c0, if_pos c0, if_pos (show k = wn ∧ mO k.toNatClampNeg = 0 from ⟨d, c0⟩), q7, q8]
    · rw [if_neg d] at h
      obtain ⟨-, h⟩ := zg_s h
      obtain ⟨-, h⟩ := zg_s h
      rw [← Option.some.inj h, if_pos c0, if_pos c0, if_neg (show ¬ (k = wn ∧ mO k.toNatClampNeg = 0) from fun q => d q.1), q7, q8]
  · rw [if_neg c0] at h
    rw [if_neg c0, if_neg c0, if_neg (show ¬ (k = wn ∧ mO k.toNatClampNeg = 0) from fun q => c0 q.2), Int64.sub_zero, Int64.add_zero]
    obtain ⟨a, ha, h⟩ := zb_s h
    obtain ⟨b, hb, h⟩ := zb_s h
    obtain ⟨c, hc, h⟩ := zb_s h
    obtain ⟨d, hd, h⟩ := zb_s h
    have ha := zLowM ha
    have hb := zLowM hb
    have hc := zLowM hc
    have hd := zLowM hd
    rw [if_pos rfl, e0] at ha hb
    rw [if_neg h10, e1] at hc hd
    rw [← ha, ← hb, ← hc, ← hd]
    by_cases c2 : mO k.toNatClampNeg = 2
    · rw [if_pos c2] at h
      obtain ⟨-, h⟩ := zg_s h
      rw [← Option.some.inj h, if_pos c2, if_pos c2]
    · rw [if_neg c2] at h
      rw [if_neg c2, if_neg c2]
      simp only [zApM zone64, zLes, zGre, zb_some] at h
      by_cases c3 : mO k.toNatClampNeg = 3
      · rw [if_pos c3] at h
        obtain ⟨-, h⟩ := zg_s h
        rw [← Option.some.inj h, if_pos c3, if_pos c3]
        rfl
      · rw [if_neg c3] at h
        obtain ⟨-, h⟩ := zg_s h
        rw [← Option.some.inj h, if_neg c3, if_neg c3]
/-! RANGES: the class lays them once, held; the reference each time, as far as they are not great -/
noncomputable def zHd (x : Int64) : Int64 := if (if x < 2000000000 then x else 2000000000) < -2000000000 then -2000000000 else (if x < 2000000000 then x else 2000000000)
theorem zHeld (x : Int64) : fn_X6_held x = some (zHd x) := rfl
theorem zAmtOf {i : Int32} {f g : Nat → Int64} (hi : 0 ≤ i ∧ i < 14) : fn_X6_amountOf i f g = some (zMx (zAb (f i.toNatClampNeg)) (zAb (g i.toNatClampNeg))) := by
  unfold fn_X6_amountOf
  rw [zg_in 14 (by decide +kernel) hi]
  rfl
theorem zMostM {i : Int32} {f g : Nat → Int64} {x : Int64} (h : fn_X12_mostOf i f g = some x) : x = zMx (zAb (f i.toNatClampNeg)) (zAb (g i.toNatClampNeg)) := by
  unfold fn_X12_mostOf at h
  obtain ⟨-, h⟩ := zg_s h
  simp only [zAmo, zGre, zb_some] at h
  exact (Option.some.inj h).symm
theorem zMx_gt (a b c : Int64) : c < zMx a b ↔ c < a ∨ c < b := by
  unfold zMx
  grind
noncomputable def zWd (w : Nat → Int32) (m : Int32) : Prop := ¬ m = (-1) ∧ ¬ w m.toNatClampNeg = 0
theorem zIsWide {m : Int32} {w : Nat → Int32} (hm : (-1) ≤ m ∧ m < 14) {x : Int32} (h : fn_X6_isWide m w = some x) : x = 0 ∧ ¬ zWd w m ∨ x = 1 ∧ zWd w m := by
  unfold fn_X6_isWide at h
  by_cases c : m < 0
  · rw [if_pos c] at h
    exact Or.inl ⟨(Option.some.inj h).symm, fun q => q.1 (by grind)⟩
  · rw [if_neg c, if_neg (by grind)] at h
    obtain ⟨-, h⟩ := zg_s h
    by_cases d : w m.toNatClampNeg = 0
    · rw [if_pos d] at h
      exact Or.inl ⟨(Option.some.inj h).symm, fun q => q.2 d⟩
    · rw [if_neg d] at h
      exact Or.inr ⟨(Option.some.inj h).symm, by grind, d⟩
theorem zVal_c {m a : Int32} {lo lo' : Nat → Int64} (h : m = (-1) ∨ lo' m.toNatClampNeg = lo m.toNatClampNeg) : zVal m a lo' = zVal m a lo := by
  unfold zVal
  rcases h with h | h
  · rw [if_pos h, if_pos h]
  · rw [h]
theorem zLw_c {i : Int32} {op made amt : Nat → Int32} {lo hi lo' hi' : Nat → Int64} (h0 : made (2 * i + 0).toNatClampNeg = (-1) ∨ (lo' (made (2 * i + 0).toNatClampNeg).toNatClampNeg = lo (made (2 * i + 0).toNatClampNeg).toNatClampNeg ∧ hi' (made (2 * i + 0).toNatClampNeg).toNatClampNeg = hi (made (2 * i + 0).toNatClampNeg).toNatClampNeg)) (h1 : made (2 * i + 1).toNatClampNeg = (-1) ∨ (lo' (made (2 * i + 1).toNatClampNeg).toNatClampNeg = lo (made (2 * i + 1).toNatClampNeg).toNatClampNeg ∧ hi' (made (2 * i + 1).toNatClampNeg).toNatClampNeg = hi (made (2 * i + 1).toNatClampNeg).toNatClampNeg)) : zLw i op made amt lo' hi' = zLw i op made amt lo hi ∧ zHg i op made amt lo' hi' = zHg i op made amt lo hi := by
  have a0 : zVal (made (2 * i + 0).toNatClampNeg) (amt (2 * i + 0).toNatClampNeg) lo' = zVal (made (2 * i + 0).toNatClampNeg) (amt (2 * i + 0).toNatClampNeg) lo := zVal_c (h0.imp id (fun q => q.1))
  have a1 : zVal (made (2 * i + 0).toNatClampNeg) (amt (2 * i + 0).toNatClampNeg) hi' = zVal (made (2 * i + 0).toNatClampNeg) (amt (2 * i + 0).toNatClampNeg) hi := zVal_c (h0.imp id (fun q => q.2))
  have b0 : zVal (made (2 * i + 1).toNatClampNeg) (amt (2 * i + 1).toNatClampNeg) lo' = zVal (made (2 * i + 1).toNatClampNeg) (amt (2 * i + 1).toNatClampNeg) lo := zVal_c (h1.imp id (fun q => q.1))
  have b1 : zVal (made (2 * i + 1).toNatClampNeg) (amt (2 * i + 1).toNatClampNeg) hi' = zVal (made (2 * i + 1).toNatClampNeg) (amt (2 * i + 1).toNatClampNeg) hi := zVal_c (h1.imp id (fun q => q.2))
  unfold zLw zHg
  rw [a0, a1, b0, b1]
  exact ⟨rfl, rfl⟩
theorem zLw_b {i : Int32} {op made amt : Nat → Int32} {lo hi lo' hi' : Nat → Int64} (hk : zOk i op made) (h : ∀ j : Int32, 0 ≤ j → j < i → lo' j.toNatClampNeg = lo j.toNatClampNeg ∧ hi' j.toNatClampNeg = hi j.toNatClampNeg) : zLw i op made amt lo' hi' = zLw i op made amt lo hi ∧ zHg i op made amt lo' hi' = zHg i op made amt lo hi := by
  obtain ⟨k1, k2, k3, k4⟩ := hk
  refine zLw_c ?_ ?_
  · by_cases c : made (2 * i + 0).toNatClampNeg = (-1)
    · exact Or.inl c
    · exact Or.inr (h _ (by grind) k2.2)
  · by_cases c : made (2 * i + 1).toNatClampNeg = (-1)
    · exact Or.inl c
    · exact Or.inr (h _ (by grind) k3.2)
noncomputable def zRN1 (i inp : Int32) (more : Int64) (op made amt rwd : Nat → Int32) (rlo rhi : Nat → Int64) : Prop := rlo i.toNatClampNeg = zHd (zLw i op made amt rlo rhi - (if i = inp then more else 0)) ∧ rhi i.toNatClampNeg = zHd (zHg i op made amt rlo rhi + (if i = inp then more else 0)) ∧ (rwd i.toNatClampNeg = 1 ∧ (1000000000 < zMx (zAb (rlo i.toNatClampNeg)) (zAb (rhi i.toNatClampNeg)) ∨ zWd rwd (made (2 * i + 0).toNatClampNeg) ∨ zWd rwd (made (2 * i + 1).toNatClampNeg)) ∨ rwd i.toNatClampNeg = 0 ∧ ¬ (1000000000 < zMx (zAb (rlo i.toNatClampNeg)) (zAb (rhi i.toNatClampNeg)) ∨ zWd rwd (made (2 * i + 0).toNatClampNeg) ∨ zWd rwd (made (2 * i + 1).toNatClampNeg)))
noncomputable def zRN (cN inp : Int32) (more : Int64) (op made amt rwd : Nat → Int32) (rlo rhi : Nat → Int64) : Prop := ∀ i : Int32, 0 ≤ i → i < cN → zRN1 i inp more op made amt rwd rlo rhi
theorem zWd_c {w w' : Nat → Int32} {m : Int32} (h : m = (-1) ∨ w' m.toNatClampNeg = w m.toNatClampNeg) : zWd w' m ↔ zWd w m := by
  unfold zWd
  rcases h with h | h
  · exact ⟨fun q => absurd h q.1, fun q => absurd h q.1⟩
  · rw [h]
theorem zRN1_c {i inp : Int32} {more : Int64} {op made amt w w' : Nat → Int32} {lo hi lo' hi' : Nat → Int64} (i0 : 0 ≤ i) (hk : zOk i op made) (h : ∀ j : Int32, 0 ≤ j → j < i + 1 → lo' j.toNatClampNeg = lo j.toNatClampNeg ∧ hi' j.toNatClampNeg = hi j.toNatClampNeg ∧ w' j.toNatClampNeg = w j.toNatClampNeg) (i1 : i < 14) (H : zRN1 i inp more op made amt w lo hi) : zRN1 i inp more op made amt w' lo' hi' := by
  obtain ⟨e1, e2⟩ := zLw_b (amt := amt) hk (fun j j0 j1 => ⟨(h j j0 (by grind)).1, (h j j0 (by grind)).2.1⟩)
  obtain ⟨f1, f2, f3⟩ := h i i0 (by grind)
  obtain ⟨k1, k2, k3, k4⟩ := hk
  have g0 : zWd w' (made (2 * i + 0).toNatClampNeg) ↔ zWd w (made (2 * i + 0).toNatClampNeg) := zWd_c (by
    by_cases c : made (2 * i + 0).toNatClampNeg = (-1)
    · exact Or.inl c
    · exact Or.inr (h _ (by grind) (by grind)).2.2)
  have g1 : zWd w' (made (2 * i + 1).toNatClampNeg) ↔ zWd w (made (2 * i + 1).toNatClampNeg) := zWd_c (by
    by_cases c : made (2 * i + 1).toNatClampNeg = (-1)
    · exact Or.inl c
    · exact Or.inr (h _ (by grind) (by grind)).2.2)
  unfold zRN1
  rw [e1, e2, f1, f2, f3, g0, g1]
  exact H
set_option maxHeartbeats 4000000 in
theorem zFill {cN p2 p3 : Int32} {op made amt wd : Nat → Int32} {lo hi : Nat → Int64} {x : (Nat → Int64) × (Nat → Int64) × (Nat → Int32)} (hN : 0 ≤ cN ∧ cN ≤ 14) (hk : ∀ i : Int32, 0 ≤ i → i < cN → zOk i op made) (h : fn_X6_fill p2 p3 cN op made amt lo hi wd = some x) : zRN cN p2 p3.toInt64 op made amt x.2.2 x.1 x.2.1 := by
  unfold fn_X6_fill at h
  refine zl_ip (P := fun x : (Nat → Int64) × (Nat → Int64) × (Nat → Int32) => zRN cN p2 p3.toInt64 op made amt x.2.2 x.1 x.2.1) (fun s => 0 ≤ s.1 ∧ s.1 ≤ cN ∧ zRN s.1 p2 p3.toInt64 op made amt s.2.2.2 s.2.1 s.2.2.1) ?_ _ _ _ ?_ h
  rotate_left
  · exact ⟨(show (0 : Int32) ≤ 0 by decide), hN.1, fun i i0 i1 => absurd i1 (by show ¬ i < 0; grind)⟩
  intro s back o ⟨H1, H2, H3⟩ hb ho
  obtain ⟨i, lo, hi, wd⟩ := s
  dsimp only at H1 H2 H3 ho
  by_cases c : cN ≤ i
  · rw [if_pos c] at ho
    have e : i = cN := by grind
    subst e
    rw [← Option.some.inj ho]
    exact H3
  · rw [if_neg c] at ho
    have hi' : 0 ≤ i ∧ i < cN := ⟨H1, by grind⟩
    have h14 : 0 ≤ i ∧ i < 14 := ⟨H1, by grind⟩
    have ok := hk i hi'.1 hi'.2
    obtain ⟨j, ej, ho⟩ := zj_g ho
    try dsimp only at ho
    have ho : j (if i = p2 then p3.toInt64 else 0) = some o := by
      by_cases q : i = p2
      · rw [if_pos q] at ho ⊢; exact ho
      · rw [if_neg q] at ho ⊢; exact ho
    have ho := zj_s ej ho
    try dsimp only at ho
    clear ej
    rw [zLwJ hN.2 hi' ok, zb_some, zHeld, zb_some] at ho
    obtain ⟨-, ho⟩ := zg_s ho
    rw [zHgJ hN.2 hi' ok, zb_some, zHeld, zb_some, zAmtOf h14, zb_some] at ho
    generalize hm : (if i = p2 then p3.toInt64 else 0) = more at ho
    generalize hA : zHd (zLw i op made amt lo hi - more) = A at ho
    have eH := (zLw_b (amt := amt) (lo := lo) (hi := hi) (lo' := vp_updL lo i.toNatClampNeg A) (hi' := hi) ok (fun j j0 j1 => ⟨by rw [zupL H1 j0, if_neg (by grind)], rfl⟩)).2
    rw [eH] at ho
    generalize hB : zHd (zHg i op made amt lo hi + more) = B at ho
    have fin : ∀ v : Int32, (v = 1 ∧ (1000000000 < zMx (zAb A) (zAb B) ∨ zWd wd (made (2 * i + 0).toNatClampNeg) ∨ zWd wd (made (2 * i + 1).toNatClampNeg)) ∨ v = 0 ∧ ¬ (1000000000 < zMx (zAb A) (zAb B) ∨ zWd wd (made (2 * i + 0).toNatClampNeg) ∨ zWd wd (made (2 * i + 1).toNatClampNeg))) → back (i + 1, vp_updL lo i.toNatClampNeg A, vp_updL hi i.toNatClampNeg B, upd wd i.toNatClampNeg v) = some o → zRN cN p2 p3.toInt64 op made amt o.2.2 o.1 o.2.1 := by
      intro v hv hbk
      refine hb _ _ ?_ hbk
      refine ⟨(show 0 ≤ i + 1 by grind), (show i + 1 ≤ cN by grind), fun j j0 j1 => ?_⟩
      have j1 : j < i + 1 := j1
      show zRN1 j p2 p3.toInt64 op made amt (upd wd i.toNatClampNeg v) (vp_updL lo i.toNatClampNeg A) (vp_updL hi i.toNatClampNeg B)
      by_cases q : j = i
      · subst q
        have nn : ∀ m : Int32, 0 ≤ m → m < j → vp_updL lo j.toNatClampNeg A m.toNatClampNeg = lo m.toNatClampNeg ∧ vp_updL hi j.toNatClampNeg B m.toNatClampNeg = hi m.toNatClampNeg := fun m m0 m1 => ⟨by rw [zupL H1 m0, if_neg (by grind)], by rw [zupL H1 m0, if_neg (by grind)]⟩
        obtain ⟨e1, e2⟩ := zLw_b (amt := amt) ok nn
        obtain ⟨k1, k2, k3, k4⟩ := ok
        have g0 : zWd (upd wd j.toNatClampNeg v) (made (2 * j + 0).toNatClampNeg) ↔ zWd wd (made (2 * j + 0).toNatClampNeg) := zWd_c (by
          by_cases c : made (2 * j + 0).toNatClampNeg = (-1)
          · exact Or.inl c
          · exact Or.inr (by rw [zup H1 (by grind), if_neg (by grind)]))
        have g1 : zWd (upd wd j.toNatClampNeg v) (made (2 * j + 1).toNatClampNeg) ↔ zWd wd (made (2 * j + 1).toNatClampNeg) := zWd_c (by
          by_cases c : made (2 * j + 1).toNatClampNeg = (-1)
          · exact Or.inl c
          · exact Or.inr (by rw [zup H1 (by grind), if_neg (by grind)]))
        unfold zRN1
        rw [e1, e2, g0, g1, zupL H1 H1, zupL H1 H1, zup H1 H1, if_pos rfl, if_pos rfl, if_pos rfl, hm]
        exact ⟨hA.symm, hB.symm, hv⟩
      · have lt : j < i := by grind
        refine zRN1_c j0 (hk j j0 (by grind)) (fun m m0 m1 => ?_) (by grind) (H3 j j0 lt)
        have ne : ¬ m = i := by grind
        rw [zupL H1 m0, zupL H1 m0, zup H1 m0, if_neg ne, if_neg ne, if_neg ne]
        exact ⟨rfl, rfl, rfl⟩
    rw [zupL H1 H1, zupL H1 H1, if_pos rfl, if_pos rfl] at ho
    by_cases d : 1000000000 < zMx (zAb A) (zAb B)
    · rw [if_pos ((lg_cmp_gt _ _).mpr d)] at ho
      exact fin _ (Or.inl ⟨rfl, Or.inl d⟩) ho
    · rw [if_neg (fun q => d ((lg_cmp_gt _ _).mp q)), zMade0 hN.2 hi', zb_some] at ho
      obtain ⟨w0, hw0, ho⟩ := zb_s ho
      rcases zIsWide ⟨ok.2.1.1, by have := ok.2.1.2; grind⟩ hw0 with ⟨z1, z2⟩ | ⟨z1, z2⟩
      · rw [if_pos z1, zMade1 hN.2 hi', zb_some] at ho
        obtain ⟨w1, hw1, ho⟩ := zb_s ho
        rcases zIsWide ⟨ok.2.2.1.1, by have := ok.2.2.1.2; grind⟩ hw1 with ⟨y1, y2⟩ | ⟨y1, y2⟩
        · rw [if_pos y1] at ho
          exact fin _ (Or.inr ⟨rfl, fun q => q.elim d (fun q => q.elim z2 y2)⟩) ho
        · rw [if_neg (by rw [y1]; decide)] at ho
          exact fin _ (Or.inl ⟨rfl, Or.inr (Or.inr y2)⟩) ho
      · rw [if_neg (by rw [z1]; decide)] at ho
        exact fin _ (Or.inl ⟨rfl, Or.inr (Or.inl z2)⟩) ho
/-! how far both ends may go -/
theorem zAb_le {x c : Int64} (hc : 0 ≤ c) (h : ¬ c < zAb x) (hx : -9223372036854775808 < x) : -c ≤ x ∧ x ≤ c := by
  unfold zAb at h
  by_cases d : 0 < x
  · rw [if_pos d] at h
    constructor <;> grind
  · rw [if_neg d] at h
    constructor <;> grind
theorem zHd_b (x : Int64) : -2000000000 ≤ zHd x ∧ zHd x ≤ 2000000000 := by
  unfold zHd
  constructor <;> grind
theorem zHd_in {x : Int64} (h : -2000000000 ≤ x ∧ x ≤ 2000000000) : zHd x = x := by
  unfold zHd
  grind
theorem zHd_w {x : Int64} (hx : -9223372036854775808 < x) : 1000000000 < zAb (zHd x) ↔ 1000000000 < zAb x := by
  by_cases h : -2000000000 ≤ x ∧ x ≤ 2000000000
  · rw [zHd_in h]
  · have e : zHd x = 2000000000 ∧ 2000000000 < x ∨ zHd x = -2000000000 ∧ x < -2000000000 := by
      unfold zHd
      grind
    rcases e with ⟨e1, e2⟩ | ⟨e1, e2⟩
    · rw [e1]
      unfold zAb
      rw [if_pos (by decide), if_pos (by grind)]
      exact ⟨fun _ => by grind, fun _ => by decide⟩
    · rw [e1]
      unfold zAb
      rw [if_neg (by decide), if_neg (by grind)]
      exact ⟨fun _ => by grind, fun _ => by decide⟩
theorem zdv2000 (x : Int64) : -4611686018427388 ≤ x / 2000 ∧ x / 2000 ≤ 4611686018427388 := by
  have e : (x / 2000).toInt = x.toInt.tdiv 2000 := by
    rw [Int64.toInt_div_of_ne_right]
    · rfl
    · decide
  have h1 := Int64.toInt_lt x
  have h2 := Int64.le_toInt x
  have h3 : -4611686018427388 ≤ x.toInt.tdiv 2000 ∧ x.toInt.tdiv 2000 ≤ 4611686018427388 := by
    by_cases c : 0 ≤ x.toInt
    · rw [Int.tdiv_eq_ediv_of_nonneg c]
      omega
    · have := Int.tdiv_eq_ediv_of_nonneg (a := -x.toInt) (b := 2000) (by omega)
      rw [Int.neg_tdiv] at this
      omega
  refine ⟨Int64.le_iff_toInt_le.mpr ?_, Int64.le_iff_toInt_le.mpr ?_⟩
  · rw [e, show (-4611686018427388 : Int64).toInt = -4611686018427388 by decide +kernel]
    exact h3.1
  · rw [e, show (4611686018427388 : Int64).toInt = 4611686018427388 by decide +kernel]
    exact h3.2
theorem zPr_b (a b : Int64) : -5000000000000000 ≤ zPr a b 1 ∧ zPr a b 1 ≤ 5000000000000000 := by
  unfold zPr zFd
  rw [show (2000 * 1 : Int64) = 2000 by decide]
  have h := zdv2000 (2 * a * b + 1000 * 1)
  generalize (2 * a * b + 1000 * 1) = x at h ⊢
  generalize x / 2000 = q at h ⊢
  by_cases c : x - q * 2000 = 0
  · rw [if_pos c, Int64.mul_one]
    constructor <;> grind
  · rw [if_neg c]
    by_cases d : 0 ≤ x
    · rw [if_pos d, Int64.mul_one]
      constructor <;> grind
    · rw [if_neg d, Int64.mul_one]
      constructor <;> grind
theorem zVal_r {m a : Int32} {row : Nat → Int64} (ha : (-10000000) ≤ a ∧ a ≤ 10000000) (h : m = (-1) ∨ (-1000000000 ≤ row m.toNatClampNeg ∧ row m.toNatClampNeg ≤ 1000000000)) : -1000000000 ≤ zVal m a row ∧ zVal m a row ≤ 1000000000 := by
  unfold zVal
  by_cases c : m = (-1)
  · rw [if_pos c, show (-1000000000 : Int64) = (-1000000000 : Int32).toInt64 by decide +kernel, show (1000000000 : Int64) = (1000000000 : Int32).toInt64 by decide +kernel, z64_le, z64_le]
    constructor <;> grind
  · rw [if_neg c]
    exact h.resolve_left c
theorem zLoV_b {p : Int32} {a b c d : Int64} (ha : -1000000000 ≤ a ∧ a ≤ 1000000000) (hb : -1000000000 ≤ b ∧ b ≤ 1000000000) (hc : -1000000000 ≤ c ∧ c ≤ 1000000000) (hd : -1000000000 ≤ d ∧ d ≤ 1000000000) : (-5000000000000000 ≤ zLoV p a b c d ∧ zLoV p a b c d ≤ 5000000000000000) ∧ (-5000000000000000 ≤ zHiV p a b c d ∧ zHiV p a b c d ≤ 5000000000000000) := by
  have p1 := zPr_b a c
  have p2 := zPr_b a d
  have p3 := zPr_b b c
  have p4 := zPr_b b d
  unfold zLoV zHiV zAp
  generalize zPr a c 1 = q1 at p1 ⊢
  generalize zPr a d 1 = q2 at p2 ⊢
  generalize zPr b c 1 = q3 at p3 ⊢
  generalize zPr b d 1 = q4 at p4 ⊢
  have mn : ∀ x y : Int64, zLs x y = x ∨ zLs x y = y := fun x y => by unfold zLs; grind
  have mx : ∀ x y : Int64, zMx x y = x ∨ zMx x y = y := fun x y => by unfold zMx; grind
  by_cases c2 : p = 2
  · rw [if_pos c2, if_pos c2]
    refine ⟨⟨?_, ?_⟩, ?_, ?_⟩ <;> grind
  · rw [if_neg c2, if_neg c2]
    by_cases c3 : p = 3
    · rw [if_pos c3, if_pos c3]
      have m1 := mn q1 q2
      have m2 := mn q3 q4
      have m3 := mn (zLs q1 q2) (zLs q3 q4)
      have n1 := mx q1 q2
      have n2 := mx q3 q4
      have n3 := mx (zMx q1 q2) (zMx q3 q4)
      generalize zLs q1 q2 = u1 at m1 m3 ⊢
      generalize zLs q3 q4 = u2 at m2 m3 ⊢
      generalize zLs u1 u2 = u3 at m3 ⊢
      generalize zMx q1 q2 = v1 at n1 n3 ⊢
      generalize zMx q3 q4 = v2 at n2 n3 ⊢
      generalize zMx v1 v2 = v3 at n3 ⊢
      refine ⟨⟨?_, ?_⟩, ?_, ?_⟩ <;> grind
    · rw [if_neg c3, if_neg c3, if_neg c3, if_neg c2, if_neg c3, if_neg c2]
      have m1 := mn a c
      have n1 := mx a c
      have m2 := mn b d
      have n2 := mx b d
      generalize zLs a c = u1 at m1 ⊢
      generalize zMx a c = u2 at n1 ⊢
      generalize zLs b d = u3 at m2 ⊢
      generalize zMx b d = u4 at n2 ⊢
      by_cases c1 : p = 1
      · rw [if_pos c1, if_pos c1]
        refine ⟨⟨?_, ?_⟩, ?_, ?_⟩ <;> grind
      · rw [if_neg c1, if_neg c1]
        by_cases c4 : p = 4
        · rw [if_pos c4, if_pos c4]
          refine ⟨⟨?_, ?_⟩, ?_, ?_⟩ <;> grind
        · rw [if_neg c4, if_neg c4]
          refine ⟨⟨?_, ?_⟩, ?_, ?_⟩ <;> grind
theorem zLw_r {i cF : Int32} {nN op fx al made amt lets mNN mO m1 m2 mX mW : Nat → Int32} {mA mB lo hi : Nat → Int64} (hk : zN01 i cF nN op fx al made amt lets mNN mO m1 m2 mX mW mA mB) (h0 : made (2 * i + 0).toNatClampNeg = (-1) ∨ ((-1000000000 ≤ lo (made (2 * i + 0).toNatClampNeg).toNatClampNeg ∧ lo (made (2 * i + 0).toNatClampNeg).toNatClampNeg ≤ 1000000000) ∧ (-1000000000 ≤ hi (made (2 * i + 0).toNatClampNeg).toNatClampNeg ∧ hi (made (2 * i + 0).toNatClampNeg).toNatClampNeg ≤ 1000000000))) (h1 : made (2 * i + 1).toNatClampNeg = (-1) ∨ ((-1000000000 ≤ lo (made (2 * i + 1).toNatClampNeg).toNatClampNeg ∧ lo (made (2 * i + 1).toNatClampNeg).toNatClampNeg ≤ 1000000000) ∧ (-1000000000 ≤ hi (made (2 * i + 1).toNatClampNeg).toNatClampNeg ∧ hi (made (2 * i + 1).toNatClampNeg).toNatClampNeg ≤ 1000000000))) : (-5000000000000000 ≤ zLw i op made amt lo hi ∧ zLw i op made amt lo hi ≤ 5000000000000000) ∧ (-5000000000000000 ≤ zHg i op made amt lo hi ∧ zHg i op made amt lo hi ≤ 5000000000000000) := by
  obtain ⟨q1, q2, q3, q4, q5, q6, q7, q8, q9, q10, q11, q12, q13, q14, q15, q16, q17⟩ := hk
  unfold zLw zHg
  by_cases c : op i.toNatClampNeg = 0
  · rw [if_pos c, if_pos c, show (-5000000000000000 : Int64) ≤ (amt (2 * i + 0).toNatClampNeg).toInt64 ↔ True from ⟨fun _ => trivial, fun _ => ?_⟩, show (-5000000000000000 : Int64) ≤ (amt (2 * i + 1).toNatClampNeg).toInt64 ↔ True from ⟨fun _ => trivial, fun _ => ?_⟩]
    · refine ⟨⟨trivial, ?_⟩, trivial, ?_⟩
      · exact Int64.le_iff_toInt_le.mpr (by rw [z64_i, show (5000000000000000 : Int64).toInt = 5000000000000000 by decide +kernel]; have := Int32.toInt_lt (amt (2 * i + 0).toNatClampNeg); omega)
      · exact Int64.le_iff_toInt_le.mpr (by rw [z64_i, show (5000000000000000 : Int64).toInt = 5000000000000000 by decide +kernel]; have := Int32.toInt_lt (amt (2 * i + 1).toNatClampNeg); omega)
    · exact Int64.le_iff_toInt_le.mpr (by rw [z64_i, show (-5000000000000000 : Int64).toInt = -5000000000000000 by decide +kernel]; have := Int32.le_toInt (amt (2 * i + 1).toNatClampNeg); omega)
    · exact Int64.le_iff_toInt_le.mpr (by rw [z64_i, show (-5000000000000000 : Int64).toInt = -5000000000000000 by decide +kernel]; have := Int32.le_toInt (amt (2 * i + 0).toNatClampNeg); omega)
  · rw [if_neg c, if_neg c]
    exact zLoV_b (zVal_r q14 (h0.imp id (fun q => q.1))) (zVal_r q14 (h0.imp id (fun q => q.2))) (zVal_r q15 (h1.imp id (fun q => q.1))) (zVal_r q15 (h1.imp id (fun q => q.2)))
theorem zGrPt {m x : Int32} {ig : Nat → Int32} (h : fn_X12_isGreatPart m ig = some x) : x = 0 ∧ ¬ zWd ig m ∨ x = 1 ∧ zWd ig m := by
  unfold fn_X12_isGreatPart at h
  by_cases c : m = (-1)
  · rw [if_pos c] at h
    exact Or.inl ⟨(Option.some.inj h).symm, fun q => q.1 c⟩
  · rw [if_neg c] at h
    obtain ⟨-, h⟩ := zg_s h
    by_cases d : ig m.toNatClampNeg = 0
    · rw [if_pos d] at h
      exact Or.inl ⟨(Option.some.inj h).symm, fun q => q.2 d⟩
    · rw [if_neg d] at h
      exact Or.inr ⟨(Option.some.inj h).symm, c, d⟩
set_option maxHeartbeats 4000000 in
theorem zeq_range {cF cc cN inp mWn : Int32} {nF nN stp mst prc al made amt op fx jn lets rwd mF mN mCst mNF mNN mS mM mC mW mO m1 m2 mX mG mIg : Nat → Int32} {rlo rhi mA mB mLe mGe : Nat → Int64} {mWb : Int64} {p1 p2 : Int32} {x : Int64} {y : Int64 × Int32 × (Nat → Int32) × (Nat → Int64) × (Nat → Int64)} (T : zTN cF cc cN inp nF nN stp mst prc al made amt op fx jn lets mF mN mNF mNN mS mM mC mW mCst mO m1 m2 mX mG mA mB) (R : zRN cN (-1) 0 op made amt rwd rlo rhi) (h1 : fn_X11_range p1 p2 cN rwd rlo rhi = some x) (h2 : fn_X12_range p1 p2 mWn mWb mN m1 mIg m2 mO mLe mA mB mGe = some y) : x = y.1 := by
  obtain ⟨hF, ⟨n1, n2, n3⟩, hC, hz, hp, hI, hf, hn, hg⟩ := T
  unfold fn_X11_range at h1
  unfold fn_X12_range at h2
  rw [zHasN, zb_some] at h1
  rw [zIsNum (by rw [n1]; exact n2), zb_some, n1] at h2
  by_cases c : 0 ≤ p1 ∧ p1 < cN
  · rw [if_neg (by rw [zif1]; exact fun q => q c)] at h1 h2
    obtain ⟨-, h1⟩ := zg_s h1
    refine zl_ip (P := fun y : Int64 × Int32 × (Nat → Int32) × (Nat → Int64) × (Nat → Int64) => x = y.1) (fun s => 0 ≤ s.1 ∧ s.1 ≤ p1 + 1 ∧ ∀ j : Int32, 0 ≤ j → j < s.1 → s.2.2.2 j.toNatClampNeg = rwd j.toNatClampNeg ∧ (rwd j.toNatClampNeg = 0 → s.2.1 j.toNatClampNeg = rlo j.toNatClampNeg ∧ s.2.2.1 j.toNatClampNeg = rhi j.toNatClampNeg)) ?_ _ _ _ ?_ h2
    rotate_left
    · exact ⟨(show (0 : Int32) ≤ 0 by decide), (show 0 ≤ p1 + 1 by grind), fun j j1 j2 => absurd j2 (by show ¬ j < 0; grind)⟩
    intro s back o ⟨H1, H2, H3⟩ hb ho
    obtain ⟨k, lo, hi, ig⟩ := s
    dsimp only at H1 H2 H3 ho
    by_cases e : p1 < k
    · rw [if_pos e] at ho
      obtain ⟨-, ho⟩ := zg_s ho
      obtain ⟨a1, a2⟩ := H3 p1 c.1 e
      by_cases w : rwd p1.toNatClampNeg = 0
      · obtain ⟨a3, a4⟩ := a2 w
        rw [if_pos w] at h1
        rw [if_pos (a1.trans w)] at ho
        by_cases v : p2 = 0
        · rw [if_pos v] at h1 ho
          rw [← Option.some.inj ho, ← Option.some.inj h1]; exact a3.symm
        · rw [if_neg v] at h1 ho
          rw [← Option.some.inj ho, ← Option.some.inj h1]; exact a4.symm
      · rw [if_neg w] at h1
        rw [if_neg (fun q => w (a1.symm.trans q))] at ho
        rw [← Option.some.inj ho, ← Option.some.inj h1]
    · rw [if_neg e] at ho
      have hk : 0 ≤ k ∧ k < cN := ⟨H1, by grind⟩
      obtain ⟨-, ho⟩ := zg_s ho
      obtain ⟨w0, hw0, ho⟩ := zb_s ho
      have hn1 := hn k hk.1 hk.2
      obtain ⟨q1, q2, q3, q4, q5, q6, q7, q8, q9, q10, q11, q12, q13, q14, q15, q16, q17⟩ := hn k hk.1 hk.2
      obtain ⟨r1, r2, r3⟩ := R k hk.1 hk.2
      rw [if_neg (show ¬ k = (-1) by grind), Int64.sub_zero] at r1
      rw [if_neg (show ¬ k = (-1) by grind), Int64.add_zero] at r2
      have gw : ∀ m : Int32, (-1) ≤ m → m < k → (zWd ig m ↔ zWd rwd m) := fun m m0 m1 => zWd_c (by
        by_cases c : m = (-1)
        · exact Or.inl c
        · exact Or.inr (H3 m (by grind) m1).1)
      have fin : ∀ (v : Int32) (lo' hi' : Nat → Int64), v = rwd k.toNatClampNeg → (∀ j : Int32, 0 ≤ j → j < k → lo' j.toNatClampNeg = lo j.toNatClampNeg ∧ hi' j.toNatClampNeg = hi j.toNatClampNeg) → (rwd k.toNatClampNeg = 0 → lo' k.toNatClampNeg = rlo k.toNatClampNeg ∧ hi' k.toNatClampNeg = rhi k.toNatClampNeg) → ∀ g : Nat → Int32, (∀ j : Int32, 0 ≤ j → g j.toNatClampNeg = if j = k then v else ig j.toNatClampNeg) → back (k + 1, lo', hi', g) = some o → x = o.1 := by
        intro v lo' hi' hv hl hl2 g hgg hbk
        refine hb _ _ ?_ hbk
        refine ⟨(show 0 ≤ k + 1 by grind), (show k + 1 ≤ p1 + 1 by grind), fun j j1 j2 => ?_⟩
        have j2 : j < k + 1 := j2
        show g j.toNatClampNeg = rwd j.toNatClampNeg ∧ (rwd j.toNatClampNeg = 0 → lo' j.toNatClampNeg = rlo j.toNatClampNeg ∧ hi' j.toNatClampNeg = rhi j.toNatClampNeg)
        rw [hgg j j1]
        by_cases w : j = k
        · rw [if_pos w, w]; exact ⟨hv, hl2⟩
        · have lt : j < k := by grind
          rw [if_neg w, (hl j j1 lt).1, (hl j j1 lt).2]; exact H3 j j1 lt
      obtain ⟨j16, e16, ho⟩ := zj_g ho
      try dsimp only at ho
      simp only [zj] at ho
      have main : (zWd rwd (made (2 * k + 0).toNatClampNeg) ∨ zWd rwd (made (2 * k + 1).toNatClampNeg)) ∧ j16 1 = some o ∨ ¬ (zWd rwd (made (2 * k + 0).toNatClampNeg) ∨ zWd rwd (made (2 * k + 1).toNatClampNeg)) ∧ j16 0 = some o := by
        rcases zGrPt hw0 with ⟨z1, z2⟩ | ⟨z1, z2⟩
        · rw [if_pos z1] at ho
          obtain ⟨w1, hw1, ho⟩ := zb_s ho
          rcases zGrPt hw1 with ⟨y1, y2⟩ | ⟨y1, y2⟩
          · rw [if_pos y1] at ho
            rw [← q5, gw _ q12.1 q12.2] at z2
            rw [← q6, gw _ q13.1 q13.2] at y2
            exact Or.inr ⟨fun q => q.elim z2 y2, ho⟩
          · rw [if_neg (by rw [y1]; decide)] at ho
            rw [← q6, gw _ q13.1 q13.2] at y2
            exact Or.inl ⟨Or.inr y2, ho⟩
        · rw [if_neg (by rw [z1]; decide)] at ho
          rw [← q5, gw _ q12.1 q12.2] at z2
          exact Or.inl ⟨Or.inl z2, ho⟩
      rcases main with ⟨z, ho⟩ | ⟨z, ho⟩
      · have ho := zj_s e16 ho
        try dsimp only at ho
        obtain ⟨-, ho⟩ := zg_s ho
        simp only [zn] at ho
        have ex : upd ig k.toNatClampNeg (vp_nar .boolean 1) k.toNatClampNeg = 1 := by rw [zup H1 H1, if_pos rfl]; rfl
        rw [ex, if_neg (by decide)] at ho
        refine fin 1 lo hi ?_ (fun _ _ _ => ⟨rfl, rfl⟩) (fun w => ?_) _ (fun j j1 => zup H1 j1) ho
        · rcases r3 with ⟨u1, _⟩ | ⟨_, u2⟩
          · exact u1.symm
          · exact absurd (Or.inr z) u2
        · rcases r3 with ⟨u1, _⟩ | ⟨_, u2⟩
          · rw [u1] at w; exact absurd w (by decide)
          · exact absurd (Or.inr z) u2
      · have ho := zj_s e16 ho
        try dsimp only at ho
        obtain ⟨-, ho⟩ := zg_s ho
        simp only [zn] at ho
        have ex : upd ig k.toNatClampNeg (vp_nar .boolean 0) k.toNatClampNeg = 0 := by rw [zup H1 H1, if_pos rfl]; rfl
        rw [ex, if_pos rfl] at ho
        obtain ⟨u, hu, ho⟩ := zb_s ho
        obtain ⟨v, hv, ho⟩ := zb_s ho
        have hu := zLaysR hn1 hu
        have hv := zMostM hv
        rw [if_neg (show ¬ (k = (-1) ∧ op k.toNatClampNeg = 0) from fun q => by have := q.1; grind), Int64.sub_zero, Int64.add_zero] at hu
        have part : ∀ m : Int32, (-1) ≤ m → m < k → ¬ zWd rwd m → m = (-1) ∨ (lo m.toNatClampNeg = rlo m.toNatClampNeg ∧ hi m.toNatClampNeg = rhi m.toNatClampNeg) ∧ (-1000000000 ≤ rlo m.toNatClampNeg ∧ rlo m.toNatClampNeg ≤ 1000000000) ∧ (-1000000000 ≤ rhi m.toNatClampNeg ∧ rhi m.toNatClampNeg ≤ 1000000000) := by
          intro m m0 m1 m2
          by_cases w : m = (-1)
          · exact Or.inl w
          · have m0' : 0 ≤ m := by grind
            have w0 : rwd m.toNatClampNeg = 0 := by
              by_cases w0 : rwd m.toNatClampNeg = 0
              · exact w0
              · exact absurd ⟨w, w0⟩ m2
            obtain ⟨s1, s2, s3⟩ := R m m0' (by grind)
            have b1 := zHd_b (zLw m op made amt rlo rhi - (if m = (-1) then 0 else 0))
            have b2 := zHd_b (zHg m op made amt rlo rhi + (if m = (-1) then 0 else 0))
            rw [← s1] at b1
            rw [← s2] at b2
            have s4 : ¬ 1000000000 < zMx (zAb (rlo m.toNatClampNeg)) (zAb (rhi m.toNatClampNeg)) := by
              rcases s3 with ⟨t1, _⟩ | ⟨_, t2⟩
              · rw [t1] at w0; exact absurd w0 (by decide)
              · exact fun q => t2 (Or.inl q)
            rw [zMx_gt] at s4
            exact Or.inr ⟨(H3 m m0' m1).2 w0, zAb_le (by decide) (fun q => s4 (Or.inl q)) (by grind), zAb_le (by decide) (fun q => s4 (Or.inr q)) (by grind)⟩
        have pa := part _ q12.1 q12.2 (fun q => z (Or.inl q))
        have pb := part _ q13.1 q13.2 (fun q => z (Or.inr q))
        obtain ⟨e1, e2⟩ := zLw_c (i := k) (op := op) (amt := amt) (made := made) (lo' := lo) (hi' := hi) (lo := rlo) (hi := rhi) (pa.imp id (fun q => q.1)) (pb.imp id (fun q => q.1))
        have bb := zLw_r hn1 (lo := rlo) (hi := rhi) (pa.imp id (fun q => q.2)) (pb.imp id (fun q => q.2))
        rw [e1, e2] at hu
        have eu1 : u.1 k.toNatClampNeg = zLw k op made amt rlo rhi := by rw [hu]; show vp_updL lo k.toNatClampNeg _ k.toNatClampNeg = _; rw [zupL H1 H1, if_pos rfl]
        have eu2 : u.2 k.toNatClampNeg = zHg k op made amt rlo rhi := by rw [hu]; show vp_updL hi k.toNatClampNeg _ k.toNatClampNeg = _; rw [zupL H1 H1, if_pos rfl]
        have elt : ∀ j : Int32, 0 ≤ j → j < k → u.1 j.toNatClampNeg = lo j.toNatClampNeg ∧ u.2 j.toNatClampNeg = hi j.toNatClampNeg := by
          intro j j1 j2
          rw [hu]
          exact ⟨by show vp_updL lo k.toNatClampNeg _ j.toNatClampNeg = _; rw [zupL H1 j1, if_neg (by grind)], by show vp_updL hi k.toNatClampNeg _ j.toNatClampNeg = _; rw [zupL H1 j1, if_neg (by grind)]⟩
        rw [eu1, eu2] at hv
        have gt : 1000000000 < v ↔ 1000000000 < zMx (zAb (rlo k.toNatClampNeg)) (zAb (rhi k.toNatClampNeg)) := by
          rw [hv, zMx_gt, zMx_gt, r1, r2, zHd_w (by have := bb.1.1; grind), zHd_w (by have := bb.2.1; grind)]
        by_cases w : v ≤ 1000000000
        · rw [if_pos ((lg_cmp_le _ _).mpr w)] at ho
          have nw : ¬ 1000000000 < zMx (zAb (rlo k.toNatClampNeg)) (zAb (rhi k.toNatClampNeg)) := fun q => by have := gt.mpr q; grind
          have r0 : rwd k.toNatClampNeg = 0 := by
            rcases r3 with ⟨_, u2⟩ | ⟨u1, _⟩
            · rcases u2 with u2 | u2
              · exact absurd u2 nw
              · exact absurd u2 z
            · exact u1
          have nv : ¬ 1000000000 < v := by grind
          rw [hv, zMx_gt] at nv
          have l1 := zAb_le (c := 1000000000) (by decide) (fun q => nv (Or.inl q)) (by have := bb.1.1; grind)
          have l2 := zAb_le (c := 1000000000) (by decide) (fun q => nv (Or.inr q)) (by have := bb.2.1; grind)
          refine fin 0 u.1 u.2 r0.symm elt (fun _ => ⟨?_, ?_⟩) _ (fun j j1 => ?_) ho
          · rw [eu1, r1, zHd_in ⟨by have := l1.1; grind, by have := l1.2; grind⟩]
          · rw [eu2, r2, zHd_in ⟨by have := l2.1; grind, by have := l2.2; grind⟩]
          · rw [zup H1 j1, zup H1 j1]
            by_cases t : j = k
            · rw [if_pos t, if_pos t]; rfl
            · rw [if_neg t, if_neg t, if_neg t]
        · rw [if_neg (fun q => w ((lg_cmp_le _ _).mp q))] at ho
          have yw : 1000000000 < zMx (zAb (rlo k.toNatClampNeg)) (zAb (rhi k.toNatClampNeg)) := gt.mp (by grind)
          have r1' : rwd k.toNatClampNeg = 1 := by
            rcases r3 with ⟨u1, _⟩ | ⟨_, u2⟩
            · exact u1
            · exact absurd (Or.inl yw) u2
          refine fin 1 u.1 u.2 r1'.symm elt (fun q => ?_) _ (fun j j1 => ?_) ho
          · rw [r1'] at q; exact absurd q (by decide)
          · rw [zup H1 j1, zup H1 j1]
            by_cases t : j = k
            · rw [if_pos t, if_pos t]; rfl
            · rw [if_neg t, if_neg t, if_neg t]
  · rw [if_pos (by rw [zif1]; exact c)] at h1 h2
    rw [← Option.some.inj h1, ← Option.some.inj h2]
/-! what task() keeps, what it lays -/
theorem zTN_stay {cF cc cN inp : Int32} {nF nN stp mst prc al made amt op fx jn lets : Nat → Int32} {mF mN mNF mNN mS mM mC mW mCst mO m1 m2 mX mG : Nat → Int32} {mA mB : Nat → Int64} {a1 a2 a3 a4 a5 b1 b2 b3 : Int32} {r1 r2 r3 r4 r5 r6 s1 s2 : Nat → Int32} {l1 l2 : Nat → Int64} {x : Int32 × Int32 × Int32 × Int32 × Int32 × Int32 × Int32 × Int32 × Int32 × Int32 × Int32 × Int32 × Int32 × Int32 × Int32 × Int32 × Int32 × (Nat → Int32) × (Nat → Int32) × (Nat → Int32) × (Nat → Int32) × (Nat → Int32) × (Nat → Int32) × (Nat → Int32) × (Nat → Int32) × (Nat → Int32) × (Nat → Int32) × (Nat → Int32) × (Nat → Int32) × Int32 × Int32 × Int32 × (Nat → Int32) × (Nat → Int32) × (Nat → Int32) × (Nat → Int64) × (Nat → Int64) × (Nat → Int32) × (Nat → Int32) × Int32 × Int32 × Int32 × Int32 × Int32 × (Nat → Int32)} {y : Int32 × Int32 × Int32 × Int64 × Int32 × Int32 × Int32 × Int32 × Int32 × Int32 × Int32 × Int32 × Int32 × Int32 × (Nat → Int32) × (Nat → Int32) × (Nat → Int32) × (Nat → Int32) × (Nat → Int32) × (Nat → Int32) × (Nat → Int32) × (Nat → Int32) × (Nat → Int32) × (Nat → Int32) × (Nat → Int32) × (Nat → Int32) × (Nat → Int32) × (Nat → Int32) × (Nat → Int64) × (Nat → Int64) × (Nat → Int32) × (Nat → Int32)} (T : zTN cF cc cN inp nF nN stp mst prc al made amt op fx jn lets mF mN mNF mNN mS mM mC mW mCst mO m1 m2 mX mG mA mB) (Q : zTQ a1 a2 a3 a4 a5 r1 r2 r3 r4 r5 r6 l1 l2 b1 b2 b3 s1 s2 mF mN mNF mNN mS mM mC mW mCst mO m1 m2 mX mG mA mB x y) (e : x.2.2.1 = 0) : zTN cF cc cN inp nF nN stp mst prc al made amt op fx jn lets y.2.2.2.2.2.2.2.2.2.2.2.2.2.2.1 y.2.2.2.2.2.2.2.2.2.2.2.2.2.2.2.1 y.2.2.2.2.2.2.2.2.2.2.2.2.2.2.2.2.2.1 y.2.2.2.2.2.2.2.2.2.2.2.2.2.2.2.2.2.2.1 y.2.2.2.2.2.2.2.2.2.2.2.2.2.2.2.2.2.2.2.1 y.2.2.2.2.2.2.2.2.2.2.2.2.2.2.2.2.2.2.2.2.1 y.2.2.2.2.2.2.2.2.2.2.2.2.2.2.2.2.2.2.2.2.2.1 y.2.2.2.2.2.2.2.2.2.2.2.2.2.2.2.2.2.2.2.2.2.2.1 y.2.2.2.2.2.2.2.2.2.2.2.2.2.2.2.2.1 y.2.2.2.2.2.2.2.2.2.2.2.2.2.2.2.2.2.2.2.2.2.2.2.1 y.2.2.2.2.2.2.2.2.2.2.2.2.2.2.2.2.2.2.2.2.2.2.2.2.1 y.2.2.2.2.2.2.2.2.2.2.2.2.2.2.2.2.2.2.2.2.2.2.2.2.2.1 y.2.2.2.2.2.2.2.2.2.2.2.2.2.2.2.2.2.2.2.2.2.2.2.2.2.2.1 y.2.2.2.2.2.2.2.2.2.2.2.2.2.2.2.2.2.2.2.2.2.2.2.2.2.2.2.1 y.2.2.2.2.2.2.2.2.2.2.2.2.2.2.2.2.2.2.2.2.2.2.2.2.2.2.2.2.1 y.2.2.2.2.2.2.2.2.2.2.2.2.2.2.2.2.2.2.2.2.2.2.2.2.2.2.2.2.2.1 := by
  rcases Q with q | q
  · exact zTN_fr T q.2.2.1
  · exact absurd (q.1.symm.trans e) (by decide)
theorem zTN_swap {mF mN mNF mNN mS mM mC mW mCst mO m1 m2 mX mG : Nat → Int32} {mA mB : Nat → Int64} {a1 a2 a3 a4 a5 b1 b2 b3 : Int32} {r1 r2 r3 r4 r5 r6 s1 s2 : Nat → Int32} {l1 l2 : Nat → Int64} {x : Int32 × Int32 × Int32 × Int32 × Int32 × Int32 × Int32 × Int32 × Int32 × Int32 × Int32 × Int32 × Int32 × Int32 × Int32 × Int32 × Int32 × (Nat → Int32) × (Nat → Int32) × (Nat → Int32) × (Nat → Int32) × (Nat → Int32) × (Nat → Int32) × (Nat → Int32) × (Nat → Int32) × (Nat → Int32) × (Nat → Int32) × (Nat → Int32) × (Nat → Int32) × Int32 × Int32 × Int32 × (Nat → Int32) × (Nat → Int32) × (Nat → Int32) × (Nat → Int64) × (Nat → Int64) × (Nat → Int32) × (Nat → Int32) × Int32 × Int32 × Int32 × Int32 × Int32 × (Nat → Int32)} {y : Int32 × Int32 × Int32 × Int64 × Int32 × Int32 × Int32 × Int32 × Int32 × Int32 × Int32 × Int32 × Int32 × Int32 × (Nat → Int32) × (Nat → Int32) × (Nat → Int32) × (Nat → Int32) × (Nat → Int32) × (Nat → Int32) × (Nat → Int32) × (Nat → Int32) × (Nat → Int32) × (Nat → Int32) × (Nat → Int32) × (Nat → Int32) × (Nat → Int32) × (Nat → Int32) × (Nat → Int64) × (Nat → Int64) × (Nat → Int32) × (Nat → Int32)} (Q : zTQ a1 a2 a3 a4 a5 r1 r2 r3 r4 r5 r6 l1 l2 b1 b2 b3 s1 s2 mF mN mNF mNN mS mM mC mW mCst mO m1 m2 mX mG mA mB x y) (e : x.2.2.1 = 1) : zTN x.2.2.2.2.2.2.2.1 x.2.2.2.2.2.2.2.2.1 x.2.2.2.2.2.2.2.2.2.1 x.2.2.2.2.2.2.2.2.2.2.1 x.2.2.2.2.2.2.2.2.2.2.2.2.2.2.2.2.2.1 x.2.2.2.2.2.2.2.2.2.2.2.2.2.2.2.2.2.2.1 x.2.2.2.2.2.2.2.2.2.2.2.2.2.2.2.2.2.2.2.1 x.2.2.2.2.2.2.2.2.2.2.2.2.2.2.2.2.2.2.2.2.1 x.2.2.2.2.2.2.2.2.2.2.2.2.2.2.2.2.2.2.2.2.2.1 x.2.2.2.2.2.2.2.2.2.2.2.2.2.2.2.2.2.2.2.2.2.2.1 x.2.2.2.2.2.2.2.2.2.2.2.2.2.2.2.2.2.2.2.2.2.2.2.1 x.2.2.2.2.2.2.2.2.2.2.2.2.2.2.2.2.2.2.2.2.2.2.2.2.1 x.2.2.2.2.2.2.2.2.2.2.2.2.2.2.2.2.2.2.2.2.2.2.2.2.2.1 x.2.2.2.2.2.2.2.2.2.2.2.2.2.2.2.2.2.2.2.2.2.2.2.2.2.2.1 x.2.2.2.2.2.2.2.2.2.2.2.2.2.2.2.2.2.2.2.2.2.2.2.2.2.2.2.1 x.2.2.2.2.2.2.2.2.2.2.2.2.2.2.2.2.2.2.2.2.2.2.2.2.2.2.2.2.1 y.2.2.2.2.2.2.2.2.2.2.2.2.2.2.1 y.2.2.2.2.2.2.2.2.2.2.2.2.2.2.2.1 y.2.2.2.2.2.2.2.2.2.2.2.2.2.2.2.2.2.1 y.2.2.2.2.2.2.2.2.2.2.2.2.2.2.2.2.2.2.1 y.2.2.2.2.2.2.2.2.2.2.2.2.2.2.2.2.2.2.2.1 y.2.2.2.2.2.2.2.2.2.2.2.2.2.2.2.2.2.2.2.2.1 y.2.2.2.2.2.2.2.2.2.2.2.2.2.2.2.2.2.2.2.2.2.1 y.2.2.2.2.2.2.2.2.2.2.2.2.2.2.2.2.2.2.2.2.2.2.1 y.2.2.2.2.2.2.2.2.2.2.2.2.2.2.2.2.1 y.2.2.2.2.2.2.2.2.2.2.2.2.2.2.2.2.2.2.2.2.2.2.2.1 y.2.2.2.2.2.2.2.2.2.2.2.2.2.2.2.2.2.2.2.2.2.2.2.2.1 y.2.2.2.2.2.2.2.2.2.2.2.2.2.2.2.2.2.2.2.2.2.2.2.2.2.1 y.2.2.2.2.2.2.2.2.2.2.2.2.2.2.2.2.2.2.2.2.2.2.2.2.2.2.1 y.2.2.2.2.2.2.2.2.2.2.2.2.2.2.2.2.2.2.2.2.2.2.2.2.2.2.2.1 y.2.2.2.2.2.2.2.2.2.2.2.2.2.2.2.2.2.2.2.2.2.2.2.2.2.2.2.2.1 y.2.2.2.2.2.2.2.2.2.2.2.2.2.2.2.2.2.2.2.2.2.2.2.2.2.2.2.2.2.1 := by
  rcases Q with q | q
  · exact absurd (q.1.symm.trans e) (by decide)
  · exact q.2.2.2.1
theorem zRk_c {G G' : Nat → Int32} (h : ∀ y : Nat, y < 14 → G' y = G y) {k : Nat} (hk : k ≤ 14) : zRk G' k = zRk G k := zct_c _ (fun j hj => by rw [h j (by omega)])
theorem z14 {i : Int32} (h0 : 0 ≤ i) (h1 : i < 14) : i.toNatClampNeg < 14 := by
  have := zcl' h0 h1
  rw [show (14 : Int32).toNatClampNeg = 14 by decide +kernel] at this
  exact this
theorem z14' {i : Int32} (h0 : 0 ≤ i) (h1 : i ≤ 14) : i.toNatClampNeg ≤ 14 := by
  have := zcle h0 h1
  rw [show (14 : Int32).toNatClampNeg = 14 by decide +kernel] at this
  exact this
theorem zFxS_c {mG mG' fx : Nat → Int32} {m j v : Int32} (hm : m ≤ 14) (h : ∀ y : Nat, y < 14 → mG' y = mG y) (H : zFxS mG fx m j v) : zFxS mG' fx m j v := by
  have e : ∀ o : Int32, 0 ≤ o → o < m → mG' o.toNatClampNeg = mG o.toNatClampNeg := fun o o0 o1 => h _ (z14 o0 (by grind))
  rcases H with ⟨a1, a2⟩ | ⟨a1, o, p, b1, b2, b3, b4, b5, b6, b7⟩ | ⟨a1, ⟨o, b1, b2, b3, b4⟩, a2⟩
  · exact Or.inl ⟨a1, fun o o0 o1 o2 => a2 o o0 o1 (by rw [← e o o0 o1]; exact o2)⟩
  · exact Or.inr (Or.inl ⟨a1, o, p, b1, b2, b3, b4, by rw [e o b1 b2]; exact b5, by rw [e p b3 b4]; exact b6, b7⟩)
  · exact Or.inr (Or.inr ⟨a1, ⟨o, b1, b2, by rw [e o b1 b2]; exact b3, b4⟩, fun u u0 u1 u2 => a2 u u0 u1 (by rw [← e u u0 u1]; exact u2)⟩)
theorem zGp_c {cN gc gfr gcl : Int32} {fx jn gof gfx gld mG : Nat → Int32} {nG : Nat → Int32} (hN : 0 ≤ cN ∧ cN ≤ 14) (hg : zG0 cN jn mG) (h : ∀ y : Nat, y < 14 → nG y = mG y) (G : zGp cN gc gfr gcl gof gfx gld fx mG) : zGp cN gc gfr gcl gof gfx gld fx nG := by
  obtain ⟨⟨g1, g2, g3, g4, g5, g6⟩, g7⟩ := G
  have e : ∀ o : Int32, 0 ≤ o → o < cN → nG o.toNatClampNeg = mG o.toNatClampNeg := fun o o0 o1 => h _ (z14 o0 (by grind))
  have r : ∀ o : Int32, 0 ≤ o → o < cN → zRk nG o.toNatClampNeg = zRk mG o.toNatClampNeg := fun o o0 o1 => zRk_c h (z14' o0 (by grind))
  refine ⟨⟨?_, fun j j0 j1 => ?_, fun j j0 j1 j2 => ?_, g4, fun q j j0 j1 j2 => ?_, fun q => ?_⟩, g7⟩
  · rw [zRk_c h (z14' hN.1 hN.2)]; exact g1
  · obtain ⟨l1, l2, l3⟩ := hg.1 j j0 j1
    rw [e j j0 j1, r _ l1 (by grind)]
    exact g2 j j0 j1
  · rw [e j j0 j1] at j2
    rw [r j j0 j1]
    exact ⟨(g3 j j0 j1 j2).1, zFxS_c hN.2 h (g3 j j0 j1 j2).2⟩
  · rw [e j j0 j1] at j2
    rw [r j j0 j1]
    exact g5 q j j0 j1 j2
  · obtain ⟨j, j0, j1, j2, j3⟩ := g6 q
    exact ⟨j, j0, j1, by rw [e j j0 j1]; exact j2, by rw [r j j0 j1]; exact j3⟩
theorem zGp_stay {cF cc cN inp : Int32} {nF nN stp mst prc al made amt op fx jn lets : Nat → Int32} {mF mN mNF mNN mS mM mC mW mCst mO m1 m2 mX mG : Nat → Int32} {mA mB : Nat → Int64} {gc gfr gcl : Int32} {gof gfx gld : Nat → Int32} {a1 a2 a3 a4 a5 b1 b2 b3 : Int32} {r1 r2 r3 r4 r5 r6 s1 s2 : Nat → Int32} {l1 l2 : Nat → Int64} {x : Int32 × Int32 × Int32 × Int32 × Int32 × Int32 × Int32 × Int32 × Int32 × Int32 × Int32 × Int32 × Int32 × Int32 × Int32 × Int32 × Int32 × (Nat → Int32) × (Nat → Int32) × (Nat → Int32) × (Nat → Int32) × (Nat → Int32) × (Nat → Int32) × (Nat → Int32) × (Nat → Int32) × (Nat → Int32) × (Nat → Int32) × (Nat → Int32) × (Nat → Int32) × Int32 × Int32 × Int32 × (Nat → Int32) × (Nat → Int32) × (Nat → Int32) × (Nat → Int64) × (Nat → Int64) × (Nat → Int32) × (Nat → Int32) × Int32 × Int32 × Int32 × Int32 × Int32 × (Nat → Int32)} {y : Int32 × Int32 × Int32 × Int64 × Int32 × Int32 × Int32 × Int32 × Int32 × Int32 × Int32 × Int32 × Int32 × Int32 × (Nat → Int32) × (Nat → Int32) × (Nat → Int32) × (Nat → Int32) × (Nat → Int32) × (Nat → Int32) × (Nat → Int32) × (Nat → Int32) × (Nat → Int32) × (Nat → Int32) × (Nat → Int32) × (Nat → Int32) × (Nat → Int32) × (Nat → Int32) × (Nat → Int64) × (Nat → Int64) × (Nat → Int32) × (Nat → Int32)} (G : zGp cN gc gfr gcl gof gfx gld fx mG) (T : zTN cF cc cN inp nF nN stp mst prc al made amt op fx jn lets mF mN mNF mNN mS mM mC mW mCst mO m1 m2 mX mG mA mB) (Q : zTQ a1 a2 a3 a4 a5 r1 r2 r3 r4 r5 r6 l1 l2 b1 b2 b3 s1 s2 mF mN mNF mNN mS mM mC mW mCst mO m1 m2 mX mG mA mB x y) (e : x.2.2.1 = 0) : zGp cN gc gfr gcl gof gfx gld fx y.2.2.2.2.2.2.2.2.2.2.2.2.2.2.2.2.2.2.2.2.2.2.2.2.2.2.2.1 := by
  rcases Q with q | q
  · obtain ⟨-, -, ⟨kF, kN, kNF, kNN, kS, kM, kC, kW, kCst, kO, k1', k2', kX, kG, kA, kB⟩, -⟩ := q
    exact zGp_c T.2.1.2 T.2.2.2.2.2.2.2.2 kG G
  · exact absurd (q.1.symm.trans e) (by decide)
theorem zSettle {cF cc cN inp : Int32} {nF nN stp mst prc al made amt op fx jn lets : Nat → Int32} {mF mN mNF mNN mS mM mC mW mCst mO m1 m2 mX mG : Nat → Int32} {mA mB : Nat → Int64} {gof gld gfx rwd : Nat → Int32} {rlo rhi : Nat → Int64} {gc gfr gcl : Int32} {gof' gld' gfx' rwd' : Nat → Int32} {rlo' rhi' : Nat → Int64} (T : zTN cF cc cN inp nF nN stp mst prc al made amt op fx jn lets mF mN mNF mNN mS mM mC mW mCst mO m1 m2 mX mG mA mB) (h : fn_X9_settle cN jn gof gld gfx fx op made amt rlo rhi rwd = some (gc, gfr, gcl, gof', gld', gfx', rlo', rhi', rwd')) : zGp cN gc gfr gcl gof' gfx' gld' fx mG ∧ zRN cN (-1) 0 op made amt rwd' rlo' rhi' := by
  obtain ⟨hF, ⟨n1, n2, n3⟩, hC, hz, hp, hI, hf, hn, hg⟩ := T
  unfold fn_X9_settle at h
  obtain ⟨g, hg', h⟩ := zb_s h
  obtain ⟨f, hf', h⟩ := zb_s h
  have e := Option.some.inj h
  simp only [Prod.mk.injEq] at e
  obtain ⟨rfl, rfl, rfl, rfl, rfl, rfl, rfl, rfl, rfl⟩ := e
  refine ⟨zGather ⟨n2, n3⟩ hg (fun i i0 i1 => ?_) hg', ?_⟩
  · obtain ⟨q1, q2, q3, q4, q5, q6, q7, q8, q9, q10, q11⟩ := hn i i0 i1
    exact q10.1
  · have := zFill ⟨n2, n3⟩ (fun i i0 i1 => zOk_of (hn i i0 i1)) hf'
    rw [show (0 : Int32).toInt64 = 0 by decide +kernel] at this
    exact this
theorem zGp_swap {mF mN mNF mNN mS mM mC mW mCst mO m1 m2 mX mG : Nat → Int32} {mA mB : Nat → Int64} {a1 a2 a3 a4 a5 b1 b2 b3 : Int32} {r1 r2 r3 r4 r5 r6 s1 s2 : Nat → Int32} {l1 l2 : Nat → Int64} {x : Int32 × Int32 × Int32 × Int32 × Int32 × Int32 × Int32 × Int32 × Int32 × Int32 × Int32 × Int32 × Int32 × Int32 × Int32 × Int32 × Int32 × (Nat → Int32) × (Nat → Int32) × (Nat → Int32) × (Nat → Int32) × (Nat → Int32) × (Nat → Int32) × (Nat → Int32) × (Nat → Int32) × (Nat → Int32) × (Nat → Int32) × (Nat → Int32) × (Nat → Int32) × Int32 × Int32 × Int32 × (Nat → Int32) × (Nat → Int32) × (Nat → Int32) × (Nat → Int64) × (Nat → Int64) × (Nat → Int32) × (Nat → Int32) × Int32 × Int32 × Int32 × Int32 × Int32 × (Nat → Int32)} {y : Int32 × Int32 × Int32 × Int64 × Int32 × Int32 × Int32 × Int32 × Int32 × Int32 × Int32 × Int32 × Int32 × Int32 × (Nat → Int32) × (Nat → Int32) × (Nat → Int32) × (Nat → Int32) × (Nat → Int32) × (Nat → Int32) × (Nat → Int32) × (Nat → Int32) × (Nat → Int32) × (Nat → Int32) × (Nat → Int32) × (Nat → Int32) × (Nat → Int32) × (Nat → Int32) × (Nat → Int64) × (Nat → Int64) × (Nat → Int32) × (Nat → Int32)} (Q : zTQ a1 a2 a3 a4 a5 r1 r2 r3 r4 r5 r6 l1 l2 b1 b2 b3 s1 s2 mF mN mNF mNN mS mM mC mW mCst mO m1 m2 mX mG mA mB x y) (e : x.2.2.1 = 1) : zGp x.2.2.2.2.2.2.2.2.2.1 x.2.2.2.2.2.2.2.2.2.2.2.2.2.2.2.2.2.2.2.2.2.2.2.2.2.2.2.2.2.1 x.2.2.2.2.2.2.2.2.2.2.2.2.2.2.2.2.2.2.2.2.2.2.2.2.2.2.2.2.2.2.1 x.2.2.2.2.2.2.2.2.2.2.2.2.2.2.2.2.2.2.2.2.2.2.2.2.2.2.2.2.2.2.2.1 x.2.2.2.2.2.2.2.2.2.2.2.2.2.2.2.2.2.2.2.2.2.2.2.2.2.2.2.2.2.2.2.2.1 x.2.2.2.2.2.2.2.2.2.2.2.2.2.2.2.2.2.2.2.2.2.2.2.2.2.2.2.2.2.2.2.2.2.2.1 x.2.2.2.2.2.2.2.2.2.2.2.2.2.2.2.2.2.2.2.2.2.2.2.2.2.2.2.2.2.2.2.2.2.1 x.2.2.2.2.2.2.2.2.2.2.2.2.2.2.2.2.2.2.2.2.2.2.2.2.2.2.1 y.2.2.2.2.2.2.2.2.2.2.2.2.2.2.2.2.2.2.2.2.2.2.2.2.2.2.2.1 := by
  rcases Q with q | q
  · exact absurd (q.1.symm.trans e) (by decide)
  · exact (zSettle q.2.2.2.1 q.2.2.2.2.1).1
theorem zRN_swap {mF mN mNF mNN mS mM mC mW mCst mO m1 m2 mX mG : Nat → Int32} {mA mB : Nat → Int64} {a1 a2 a3 a4 a5 b1 b2 b3 : Int32} {r1 r2 r3 r4 r5 r6 s1 s2 : Nat → Int32} {l1 l2 : Nat → Int64} {x : Int32 × Int32 × Int32 × Int32 × Int32 × Int32 × Int32 × Int32 × Int32 × Int32 × Int32 × Int32 × Int32 × Int32 × Int32 × Int32 × Int32 × (Nat → Int32) × (Nat → Int32) × (Nat → Int32) × (Nat → Int32) × (Nat → Int32) × (Nat → Int32) × (Nat → Int32) × (Nat → Int32) × (Nat → Int32) × (Nat → Int32) × (Nat → Int32) × (Nat → Int32) × Int32 × Int32 × Int32 × (Nat → Int32) × (Nat → Int32) × (Nat → Int32) × (Nat → Int64) × (Nat → Int64) × (Nat → Int32) × (Nat → Int32) × Int32 × Int32 × Int32 × Int32 × Int32 × (Nat → Int32)} {y : Int32 × Int32 × Int32 × Int64 × Int32 × Int32 × Int32 × Int32 × Int32 × Int32 × Int32 × Int32 × Int32 × Int32 × (Nat → Int32) × (Nat → Int32) × (Nat → Int32) × (Nat → Int32) × (Nat → Int32) × (Nat → Int32) × (Nat → Int32) × (Nat → Int32) × (Nat → Int32) × (Nat → Int32) × (Nat → Int32) × (Nat → Int32) × (Nat → Int32) × (Nat → Int32) × (Nat → Int64) × (Nat → Int64) × (Nat → Int32) × (Nat → Int32)} (Q : zTQ a1 a2 a3 a4 a5 r1 r2 r3 r4 r5 r6 l1 l2 b1 b2 b3 s1 s2 mF mN mNF mNN mS mM mC mW mCst mO m1 m2 mX mG mA mB x y) (e : x.2.2.1 = 1) : zRN x.2.2.2.2.2.2.2.2.2.1 (-1) 0 x.2.2.2.2.2.2.2.2.2.2.2.2.2.2.2.2.2.2.2.2.2.2.2.2.2.1 x.2.2.2.2.2.2.2.2.2.2.2.2.2.2.2.2.2.2.2.2.2.2.2.1 x.2.2.2.2.2.2.2.2.2.2.2.2.2.2.2.2.2.2.2.2.2.2.2.2.1 x.2.2.2.2.2.2.2.2.2.2.2.2.2.2.2.2.2.2.2.2.2.2.2.2.2.2.2.2.2.2.2.2.2.2.2.2.2.1 x.2.2.2.2.2.2.2.2.2.2.2.2.2.2.2.2.2.2.2.2.2.2.2.2.2.2.2.2.2.2.2.2.2.2.2.1 x.2.2.2.2.2.2.2.2.2.2.2.2.2.2.2.2.2.2.2.2.2.2.2.2.2.2.2.2.2.2.2.2.2.2.2.2.1 := by
  rcases Q with q | q
  · exact absurd (q.1.symm.trans e) (by decide)
  · exact (zSettle q.2.2.2.1 q.2.2.2.2.1).2
/-! before the first TASK -/
theorem zTN_0 {nF nN stp mst prc al made amt op fx jn lets : Nat → Int32} {mF mN mNF mNN mS mM mC mW mCst mO m1 m2 mX mG : Nat → Int32} {mA mB : Nat → Int64} (h1 : mF 0 = 0) (h2 : mN 0 = 0) (h3 : mCst 0 = 0) : zTN 0 0 0 0 nF nN stp mst prc al made amt op fx jn lets mF mN mNF mNN mS mM mC mW mCst mO m1 m2 mX mG mA mB := by
  have no : ∀ i : Int32, 0 ≤ i → ¬ i < 0 := fun i h q => by grind
  exact ⟨⟨h1, by decide, by decide⟩, ⟨h2, by decide, by decide⟩, ⟨h3, by decide, by decide⟩, fun _ => rfl, fun q => absurd q (by decide), by rw [zn01.1]; rfl, fun i h q => absurd q (no i h), fun i h q => absurd q (no i h), fun i h q => absurd q (no i h), fun i j h q => absurd q (no i h)⟩
theorem zGp_0 {gof gfx gld fx mG : Nat → Int32} : zGp 0 0 0 0 gof gfx gld fx mG := ⟨zGi_0, by rw [zn01.1]; rfl⟩
theorem zRN_0 {op made amt rwd : Nat → Int32} {rlo rhi : Nat → Int64} : zRN 0 (-1) 0 op made amt rwd rlo rhi := fun i h q => absurd q (by grind)
