/-! the tape's length: class and reference side by side -/
theorem zeq0 {a b : Int32} (h1 : a = 0) (h2 : b = 0) : a = b := h1.trans h2.symm
noncomputable def zPB (p : Int32) (s : Int32 × Int32 × (Nat → Int32)) (back : (Int32 × Int32 × (Nat → Int32)) → Option (Int32 × (Nat → Int32))) : Option (Int32 × (Nat → Int32)) := (if s.1 < 0 then (some (s.2.1, s.2.2)) else (if 1200 ≤ s.2.1 then (back ((s.1 + (-8)), s.2.1, s.2.2)) else (zg s.2.1 1200 (zn (upd s.2.2 s.2.1.toNatClampNeg (vp_nar .byte (p >>> (s.1 &&& 31)).toInt8.toInt32)) (fun g => (back ((s.1 + (-8)), (s.2.1 + 1), g)))))))
theorem zPB_go {p s l : Int32} {f : Nat → Int32} {n : Nat} {o : Int32 × (Nat → Int32)} (h : zl (zPB p) (n + 1) (s, l, f) = some o) (hs : ¬ s < 0) (hl : ¬ 1200 ≤ l) : ∃ g, zl (zPB p) n (s + (-8), l + 1, g) = some o := by
  have h : (if s < 0 then (some (l, f)) else (if 1200 ≤ l then (zl (zPB p) n ((s + (-8)), l, f)) else (zg l 1200 (zn (upd f l.toNatClampNeg (vp_nar .byte (p >>> (s &&& 31)).toInt8.toInt32)) (fun g => (zl (zPB p) n ((s + (-8)), (l + 1), g))))))) = some o := h
  rw [if_neg hs, if_neg hl] at h
  obtain ⟨-, h⟩ := zg_s h
  exact ⟨_, h⟩
theorem zPB_end {p s l : Int32} {f : Nat → Int32} {n : Nat} {o : Int32 × (Nat → Int32)} (h : zl (zPB p) (n + 1) (s, l, f) = some o) (hs : s < 0) : o.1 = l := by
  have h : (if s < 0 then (some (l, f)) else (if 1200 ≤ l then (zl (zPB p) n ((s + (-8)), l, f)) else (zg l 1200 (zn (upd f l.toNatClampNeg (vp_nar .byte (p >>> (s &&& 31)).toInt8.toInt32)) (fun g => (zl (zPB p) n ((s + (-8)), (l + 1), g))))))) = some o := h
  rw [if_pos hs] at h
  rw [← Option.some.inj h]
theorem zputlen {p v : Int32} {f : Nat → Int32} {o : Int32 × (Nat → Int32)} (h : fn_X11_putBytes p v f = some o) (h0 : 0 ≤ v) (h1 : v ≤ 1196) : o.1 = v + 4 := by
  have h : zl (zPB p) (99995 + 1 + 1 + 1 + 1 + 1) (24, v, f) = some o := h
  obtain ⟨g1, h⟩ := zPB_go h (by decide +kernel) (by lia)
  obtain ⟨g2, h⟩ := zPB_go h (by decide +kernel) (by lia)
  obtain ⟨g3, h⟩ := zPB_go h (by decide +kernel) (by lia)
  obtain ⟨g4, h⟩ := zPB_go h (by decide +kernel) (by lia)
  have e := zPB_end h (by decide +kernel)
  rw [e]
  lia
noncomputable def zLB (p v : Int32) (s : Int32 × (Nat → Int32)) (back : (Int32 × (Nat → Int32)) → Option (Int32 × (Nat → Int32))) : Option (Int32 × (Nat → Int32)) := (if 4 ≤ s.1 then (some ((v + 4), s.2)) else (zg (v + s.1) 1200 (zn (upd s.2 (v + s.1).toNatClampNeg ((p >>> ((24 - (8 * s.1)) &&& 31)) &&& 255)) (fun g => (back ((s.1 + 1), g))))))
theorem zlayslen' (p v : Int32) : ∀ (n : Nat) (s o : Int32 × (Nat → Int32)), zl (zLB p v) n s = some o → o.1 = v + 4 := by
  intro n
  induction n with
  | zero =>
    intro s o h
    exact (zl_0 h).elim
  | succ n ih =>
    intro s o h
    have h : (if 4 ≤ s.1 then (some ((v + 4), s.2)) else (zg (v + s.1) 1200 (zn (upd s.2 (v + s.1).toNatClampNeg ((p >>> ((24 - (8 * s.1)) &&& 31)) &&& 255)) (fun g => (zl (zLB p v) n ((s.1 + 1), g)))))) = some o := h
    by_cases c : 4 ≤ s.1
    · rw [if_pos c] at h
      rw [← Option.some.inj h]
    · rw [if_neg c] at h
      obtain ⟨-, h⟩ := zg_s h
      exact ih _ _ h
theorem zlayslen {p v : Int32} {f : Nat → Int32} {o : Int32 × (Nat → Int32)} (h : fn_X12_lays p v f = some o) : o.1 = v + 4 := zlayslen' p v 100000 (0, f) o h
theorem zeq_feed {p1 p2 p3 p4 p5 v w : Int32} {f1 f2 g1 g2 : Nat → Int32} {o o' : Int32 × Int32 × (Nat → Int32) × (Nat → Int32)} (e : v = w) (hv : 0 ≤ v ∧ v ≤ 1200) (h1 : fn_X11_feed p1 p2 p3 p4 p5 v f1 f2 = some o) (h2 : fn_X12_feed p1 p2 p3 p4 p5 w g1 g2 = some o') : o.1 = o'.1 ∧ o.2.1 = o'.2.1 := by
  subst e
  obtain ⟨hv1, hv2⟩ := hv
  unfold fn_X11_feed at h1
  unfold fn_X12_feed at h2
  by_cases c : v ≤ 1180
  · rw [if_pos c] at h1
    rw [if_pos (by lia)] at h2
    obtain ⟨a1, e1, h1⟩ := zb_s h1
    obtain ⟨a2, e2, h1⟩ := zb_s h1
    obtain ⟨a3, e3, h1⟩ := zb_s h1
    obtain ⟨a4, e4, h1⟩ := zb_s h1
    obtain ⟨a5, e5, h1⟩ := zb_s h1
    obtain ⟨b1, d1, h2⟩ := zb_s h2
    obtain ⟨b2, d2, h2⟩ := zb_s h2
    obtain ⟨b3, d3, h2⟩ := zb_s h2
    obtain ⟨b4, d4, h2⟩ := zb_s h2
    obtain ⟨b5, d5, h2⟩ := zb_s h2
    have q1 := zputlen e1 hv1 (by lia)
    have q2 := zputlen e2 (by lia) (by lia)
    have q3 := zputlen e3 (by lia) (by lia)
    have q4 := zputlen e4 (by lia) (by lia)
    have q5 := zputlen e5 (by lia) (by lia)
    have r1 := zlayslen d1
    have r2 := zlayslen d2
    have r3 := zlayslen d3
    have r4 := zlayslen d4
    have r5 := zlayslen d5
    have t1 : a5.1 = v + 20 := by lia
    have t2 : b5.1 = v + 20 := by lia
    rw [← Option.some.inj h1, ← Option.some.inj h2]
    exact ⟨t1.trans t2.symm, t1.trans t2.symm⟩
  · rw [if_neg c] at h1
    rw [if_neg (by lia)] at h2
    obtain ⟨a1, e1, h1⟩ := zb_s h1
    obtain ⟨b1, d1, h2⟩ := zb_s h2
    unfold fn_X11_refuse at e1
    rw [if_neg (by decide +kernel), if_neg (by decide +kernel)] at e1
    obtain ⟨-, e1⟩ := zg_s e1
    unfold fn_X12_refuses at d1
    obtain ⟨-, d1⟩ := zg_s d1
    rw [← Option.some.inj h1, ← Option.some.inj h2, ← Option.some.inj e1, ← Option.some.inj d1]
    exact ⟨rfl, rfl⟩
theorem zeq_end {p v w : Int32} {f g : Nat → Int32} {o o' : Int32 × Int32 × (Nat → Int32)} (e : v = w) (_hv : 0 ≤ v ∧ v ≤ 1200) (h1 : fn_X11_end p v f = some o) (h2 : fn_X12_end p w g = some o') : o.1 = o'.1 ∧ o.2.1 = o'.2.1 := by
  subst e
  unfold fn_X11_end at h1
  unfold fn_X12_end at h2
  by_cases c : p < 0
  · rw [if_pos c] at h1 h2
    obtain ⟨a1, e1, h1⟩ := zb_s h1
    obtain ⟨b1, d1, h2⟩ := zb_s h2
    unfold fn_X12_isRefused at d1
    obtain ⟨-, d1⟩ := zg_s d1
    rw [← Option.some.inj h1, ← Option.some.inj h2, ← Option.some.inj d1]
    exact ⟨rfl, rfl⟩
  · rw [if_neg c] at h1 h2
    by_cases c2 : p ≤ v
    · rw [if_pos c2] at h1 h2
      rw [← Option.some.inj h1, ← Option.some.inj h2]
      exact ⟨rfl, rfl⟩
    · rw [if_neg c2] at h1 h2
      obtain ⟨a1, e1, h1⟩ := zb_s h1
      obtain ⟨b1, d1, h2⟩ := zb_s h2
      unfold fn_X12_isRefused at d1
      obtain ⟨-, d1⟩ := zg_s d1
      rw [← Option.some.inj h1, ← Option.some.inj h2, ← Option.some.inj d1]
      exact ⟨rfl, rfl⟩
theorem zeq_fault {p a b c d : Int32} {o o' : Int32} (e1 : a = c) (e2 : b = d) (h1 : fn_X11_fault p a b = some o) (h2 : fn_X12_fault p c d = some o') : o = o' := by
  subst e1
  subst e2
  unfold fn_X11_fault at h1
  unfold fn_X12_fault at h2
  grind
theorem bp_b (x : Int32) : x.toInt8.toInt32 &&& 255 = x &&& 255 := by
  apply Int32.toBitVec_inj.mp
  rw [Int32.toBitVec_and, Int32.toBitVec_and, Int8.toBitVec_toInt32, Int32.toBitVec_toInt8]
  apply BitVec.eq_of_getLsbD_eq
  intro i hi
  rw [BitVec.getLsbD_and, BitVec.getLsbD_and]
  have hm : ∀ i < 32, 8 ≤ i → (255 : Int32).toBitVec.getLsbD i = false := by decide
  rcases Nat.lt_or_ge i 8 with z | z
  · rw [BitVec.getLsbD_signExtend, BitVec.getLsbD_signExtend, if_pos z, if_pos hi]
    simp only [z, hi, decide_true, Bool.true_and]
  · rw [hm i hi z]; simp
/-! the tape's bytes: class and reference side by side -/
theorem zByte (x : Int32) : (-128) ≤ x.toInt8.toInt32 ∧ x.toInt8.toInt32 ≤ 127 ∧ (x &&& 255) = (if x.toInt8.toInt32 < 0 then x.toInt8.toInt32 + 256 else x.toInt8.toInt32) := by
  rw [← bp_b x]
  generalize x.toInt8 = t
  have h : ∀ n : Nat, n < 256 → (-128) ≤ (Int8.ofNat n).toInt32 ∧ (Int8.ofNat n).toInt32 ≤ 127 ∧ ((Int8.ofNat n).toInt32 &&& 255) = (if (Int8.ofNat n).toInt32 < 0 then (Int8.ofNat n).toInt32 + 256 else (Int8.ofNat n).toInt32) := by decide +kernel
  have e : t = Int8.ofNat t.toBitVec.toNat := by
    apply Int8.toBitVec.inj
    simp
  rw [e]
  exact h _ t.toBitVec.isLt
theorem zByte' (x : Int32) : (-128) ≤ vp_nar .byte x.toInt8.toInt32 ∧ vp_nar .byte x.toInt8.toInt32 ≤ 127 ∧ (x &&& 255) = (if vp_nar .byte x.toInt8.toInt32 < 0 then vp_nar .byte x.toInt8.toInt32 + 256 else vp_nar .byte x.toInt8.toInt32) := by
  rw [pk_vb]
  exact zByte x
theorem zTp_up {f g : Nat → Int32} {i : Nat} {x y : Int32} (h : zTp f g) (hx : (-128) ≤ x ∧ x ≤ 127 ∧ y = if x < 0 then x + 256 else x) : zTp (upd f i x) (upd g i y) := by
  intro j
  show (-128) ≤ (if j = i then x else f j) ∧ (if j = i then x else f j) ≤ 127 ∧ (if j = i then y else g j) = (if (if j = i then x else f j) < 0 then (if j = i then x else f j) + 256 else (if j = i then x else f j))
  by_cases c : j = i
  · rw [if_pos c, if_pos c]
    exact hx
  · rw [if_neg c, if_neg c]
    exact h j
theorem zPB_go' {p s l : Int32} {f : Nat → Int32} {n : Nat} {o : Int32 × (Nat → Int32)} (h : zl (zPB p) (n + 1) (s, l, f) = some o) (hs : ¬ s < 0) (hl : ¬ 1200 ≤ l) : zl (zPB p) n (s + (-8), l + 1, upd f l.toNatClampNeg (vp_nar .byte (p >>> (s &&& 31)).toInt8.toInt32)) = some o := by
  have h : (if s < 0 then (some (l, f)) else (if 1200 ≤ l then (zl (zPB p) n ((s + (-8)), l, f)) else (zg l 1200 (zn (upd f l.toNatClampNeg (vp_nar .byte (p >>> (s &&& 31)).toInt8.toInt32)) (fun g => (zl (zPB p) n ((s + (-8)), (l + 1), g))))))) = some o := h
  rw [if_neg hs, if_neg hl] at h
  obtain ⟨-, h⟩ := zg_s h
  exact h
theorem zPB_end' {p s l : Int32} {f : Nat → Int32} {n : Nat} {o : Int32 × (Nat → Int32)} (h : zl (zPB p) (n + 1) (s, l, f) = some o) (hs : s < 0) : o.2 = f := by
  have h : (if s < 0 then (some (l, f)) else (if 1200 ≤ l then (zl (zPB p) n ((s + (-8)), l, f)) else (zg l 1200 (zn (upd f l.toNatClampNeg (vp_nar .byte (p >>> (s &&& 31)).toInt8.toInt32)) (fun g => (zl (zPB p) n ((s + (-8)), (l + 1), g))))))) = some o := h
  rw [if_pos hs] at h
  rw [← Option.some.inj h]
theorem zLB_go {p v k : Int32} {f : Nat → Int32} {n : Nat} {o : Int32 × (Nat → Int32)} (h : zl (zLB p v) (n + 1) (k, f) = some o) (hk : ¬ 4 ≤ k) : zl (zLB p v) n (k + 1, upd f (v + k).toNatClampNeg ((p >>> ((24 - (8 * k)) &&& 31)) &&& 255)) = some o := by
  have h : (if 4 ≤ k then (some ((v + 4), f)) else (zg (v + k) 1200 (zn (upd f (v + k).toNatClampNeg ((p >>> ((24 - (8 * k)) &&& 31)) &&& 255)) (fun g => (zl (zLB p v) n ((k + 1), g)))))) = some o := h
  rw [if_neg hk] at h
  obtain ⟨-, h⟩ := zg_s h
  exact h
theorem zLB_end {p v k : Int32} {f : Nat → Int32} {n : Nat} {o : Int32 × (Nat → Int32)} (h : zl (zLB p v) (n + 1) (k, f) = some o) (hk : 4 ≤ k) : o.2 = f := by
  have h : (if 4 ≤ k then (some ((v + 4), f)) else (zg (v + k) 1200 (zn (upd f (v + k).toNatClampNeg ((p >>> ((24 - (8 * k)) &&& 31)) &&& 255)) (fun g => (zl (zLB p v) n ((k + 1), g)))))) = some o := h
  rw [if_pos hk] at h
  rw [← Option.some.inj h]
theorem zTp_put {p v : Int32} {f g : Nat → Int32} {o o' : Int32 × (Nat → Int32)} (ht : zTp f g) (h0 : 0 ≤ v) (h1 : v ≤ 1196) (e1 : fn_X11_putBytes p v f = some o) (e2 : fn_X12_lays p v g = some o') : zTp o.2 o'.2 := by
  have h : zl (zPB p) (99995 + 1 + 1 + 1 + 1 + 1) (24, v, f) = some o := e1
  have h := zPB_go' h (by decide +kernel) (by lia)
  have h := zPB_go' h (by decide +kernel) (by lia)
  have h := zPB_go' h (by decide +kernel) (by lia)
  have h := zPB_go' h (by decide +kernel) (by lia)
  have h := zPB_end' h (by decide +kernel)
  have k : zl (zLB p v) (99995 + 1 + 1 + 1 + 1 + 1) (0, g) = some o' := e2
  have k := zLB_go k (by decide +kernel)
  have k := zLB_go k (by decide +kernel)
  have k := zLB_go k (by decide +kernel)
  have k := zLB_go k (by decide +kernel)
  have k := zLB_end k (by decide +kernel)
  rw [h, k]
  have i0 : v + 0 = v := by grind
  have i1 : v + (0 + 1) = v + 1 := by grind
  have i2 : v + (0 + 1 + 1) = v + 1 + 1 := by grind
  have i3 : v + (0 + 1 + 1 + 1) = v + 1 + 1 + 1 := by grind
  have s0 : ((24 - (8 * 0)) &&& 31 : Int32) = 24 &&& 31 := by decide +kernel
  have s1 : ((24 - (8 * (0 + 1))) &&& 31 : Int32) = (24 + (-8)) &&& 31 := by decide +kernel
  have s2 : ((24 - (8 * (0 + 1 + 1))) &&& 31 : Int32) = (24 + (-8) + (-8)) &&& 31 := by decide +kernel
  have s3 : ((24 - (8 * (0 + 1 + 1 + 1))) &&& 31 : Int32) = (24 + (-8) + (-8) + (-8)) &&& 31 := by decide +kernel
  rw [i0, i1, i2, i3, s0, s1, s2, s3]
  exact zTp_up (zTp_up (zTp_up (zTp_up ht (zByte' _)) (zByte' _)) (zByte' _)) (zByte' _)
theorem zTp_feed {p1 p2 p3 p4 p5 v w : Int32} {f1 f2 g1 g2 : Nat → Int32} {o o' : Int32 × Int32 × (Nat → Int32) × (Nat → Int32)} (e : v = w) (hv : 0 ≤ v ∧ v ≤ 1200) (ht : zTp f1 g1) (h1 : fn_X11_feed p1 p2 p3 p4 p5 v f1 f2 = some o) (h2 : fn_X12_feed p1 p2 p3 p4 p5 w g1 g2 = some o') : zTp o.2.2.1 o'.2.2.1 := by
  subst e
  obtain ⟨hv1, hv2⟩ := hv
  unfold fn_X11_feed at h1
  unfold fn_X12_feed at h2
  by_cases c : v ≤ 1180
  · rw [if_pos c] at h1
    rw [if_pos (by lia)] at h2
    obtain ⟨a1, e1, h1⟩ := zb_s h1
    obtain ⟨a2, e2, h1⟩ := zb_s h1
    obtain ⟨a3, e3, h1⟩ := zb_s h1
    obtain ⟨a4, e4, h1⟩ := zb_s h1
    obtain ⟨a5, e5, h1⟩ := zb_s h1
    obtain ⟨b1, d1, h2⟩ := zb_s h2
    obtain ⟨b2, d2, h2⟩ := zb_s h2
    obtain ⟨b3, d3, h2⟩ := zb_s h2
    obtain ⟨b4, d4, h2⟩ := zb_s h2
    obtain ⟨b5, d5, h2⟩ := zb_s h2
    have q1 := zputlen e1 hv1 (by lia)
    have q2 := zputlen e2 (by lia) (by lia)
    have q3 := zputlen e3 (by lia) (by lia)
    have q4 := zputlen e4 (by lia) (by lia)
    have r1 := zlayslen d1
    have r2 := zlayslen d2
    have r3 := zlayslen d3
    have r4 := zlayslen d4
    rw [show b1.1 = a1.1 by rw [q1, r1]] at d2
    rw [show b2.1 = a2.1 by rw [r2, q2, show b1.1 = a1.1 by rw [q1, r1]]] at d3
    rw [show b3.1 = a3.1 by lia] at d4
    rw [show b4.1 = a4.1 by lia] at d5
    have t1 := zTp_put ht hv1 (by lia) e1 d1
    have t2 := zTp_put t1 (by lia) (by lia) e2 d2
    have t3 := zTp_put t2 (by lia) (by lia) e3 d3
    have t4 := zTp_put t3 (by lia) (by lia) e4 d4
    have t5 := zTp_put t4 (by lia) (by lia) e5 d5
    rw [← Option.some.inj h1, ← Option.some.inj h2]
    exact t5
  · rw [if_neg c] at h1
    rw [if_neg (by lia)] at h2
    obtain ⟨a1, e1, h1⟩ := zb_s h1
    obtain ⟨b1, d1, h2⟩ := zb_s h2
    rw [← Option.some.inj h1, ← Option.some.inj h2]
    exact ht
