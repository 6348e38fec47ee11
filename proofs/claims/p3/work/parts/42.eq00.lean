/-! the tape's length: class and reference side by side -/
theorem zeq0 {a b : Int32} (h1 : a = 0) (h2 : b = 0) : a = b := h1.trans h2.symm
def zPB (p : Int32) (s : Int32 × Int32 × (Nat → Int32)) (back : (Int32 × Int32 × (Nat → Int32)) → Option (Int32 × (Nat → Int32))) : Option (Int32 × (Nat → Int32)) := (if s.1 < 0 then (some (s.2.1, s.2.2)) else (if 1200 ≤ s.2.1 then (back ((s.1 + (-8)), s.2.1, s.2.2)) else (zg s.2.1 1200 (zn (upd s.2.2 s.2.1.toNatClampNeg (vp_nar .byte (p >>> (s.1 &&& 31)).toInt8.toInt32)) (fun g => (back ((s.1 + (-8)), (s.2.1 + 1), g)))))))
theorem zPB_go {p s l : Int32} {f : Nat → Int32} {n : Nat} {o : Int32 × (Nat → Int32)} (h : zl (zPB p) (n + 1) (s, l, f) = some o) (hs : ¬ s < 0) (hl : ¬ 1200 ≤ l) : ∃ g, zl (zPB p) n (s + (-8), l + 1, g) = some o := by
  have h : (if s < 0 then (some (l, f)) else (if 1200 ≤ l then (zl (zPB p) n ((s + (-8)), l, f)) else (zg l 1200 (zn (upd f l.toNatClampNeg (vp_nar .byte (p >>> (s &&& 31)).toInt8.toInt32)) (fun g => (zl (zPB p) n ((s + (-8)), (l + 1), g))))))) = some o := h
  rw [if_neg hs, if_neg hl] at h
  obtain ⟨-, h⟩ := zg_s h
  exact ⟨_, h⟩
theorem zPB_end {p s l : Int32} {f : Nat → Int32} {n : Nat} {o : Int32 × (Nat → Int32)} (h : zl (zPB p) (n + 1) (s, l, f) = some o) (hs : s < 0) : o.1 = l := by
  have h : (if s < 0 then (some (l, f)) else (if 1200 ≤ l then (zl (zPB p) n ((s + (-8)), l, f)) else (zg l 1200 (zn (upd f l.toNatClampNeg (vp_nar .byte (p >>> (s &&& 31)).toInt8.toInt32)) (fun g => (zl (zPB p) n ((s + (-8)), (l + 1), g))))))) = some o := h
  rw [if_pos hs] at h
  rw [← Option.some.inj h]
theorem zputlen {p v : Int32} {f : Nat → Int32} {o : Int32 × (Nat → Int32)} (h : fn_X11_putBytes p v f = some o) (h0 : 0 ≤ v) (h1 : v ≤ 1196) : o.1 = v + 4 := by
  have h : zl (zPB p) (99995 + 1 + 1 + 1 + 1 + 1) (24, v, f) = some o := h
  obtain ⟨g1, h⟩ := zPB_go h (by decide +kernel) (by lia)
  obtain ⟨g2, h⟩ := zPB_go h (by decide +kernel) (by lia)
  obtain ⟨g3, h⟩ := zPB_go h (by decide +kernel) (by lia)
  obtain ⟨g4, h⟩ := zPB_go h (by decide +kernel) (by lia)
  have e := zPB_end h (by decide +kernel)
  rw [e]
  lia
def zLB (p v : Int32) (s : Int32 × (Nat → Int32)) (back : (Int32 × (Nat → Int32)) → Option (Int32 × (Nat → Int32))) : Option (Int32 × (Nat → Int32)) := (if 4 ≤ s.1 then (some ((v + 4), s.2)) else (zg (v + s.1) 1200 (zn (upd s.2 (v + s.1).toNatClampNeg ((p >>> ((24 - (8 * s.1)) &&& 31)) &&& 255)) (fun g => (back ((s.1 + 1), g))))))
theorem zlayslen' (p v : Int32) : ∀ (n : Nat) (s o : Int32 × (Nat → Int32)), zl (zLB p v) n s = some o → o.1 = v + 4 := by
  intro n
  induction n with
  | zero =>
    intro s o h
    exact (zl_0 h).elim
  | succ n ih =>
    intro s o h
    have h : (if 4 ≤ s.1 then (some ((v + 4), s.2)) else (zg (v + s.1) 1200 (zn (upd s.2 (v + s.1).toNatClampNeg ((p >>> ((24 - (8 * s.1)) &&& 31)) &&& 255)) (fun g => (zl (zLB p v) n ((s.1 + 1), g)))))) = some o := h
    by_cases c : 4 ≤ s.1
    · rw [if_pos c] at h
      rw [← Option.some.inj h]
    · rw [if_neg c] at h
      obtain ⟨-, h⟩ := zg_s h
      exact ih _ _ h
theorem zlayslen {p v : Int32} {f : Nat → Int32} {o : Int32 × (Nat → Int32)} (h : fn_X12_lays p v f = some o) : o.1 = v + 4 := zlayslen' p v 100000 (0, f) o h
theorem zeq_feed {p1 p2 p3 p4 p5 v w : Int32} {f1 f2 g1 g2 : Nat → Int32} {o o' : Int32 × Int32 × (Nat → Int32) × (Nat → Int32)} (e : v = w) (hv : 0 ≤ v ∧ v ≤ 1200) (h1 : fn_X11_feed p1 p2 p3 p4 p5 v f1 f2 = some o) (h2 : fn_X12_feed p1 p2 p3 p4 p5 w g1 g2 = some o') : o.1 = o'.1 ∧ o.2.1 = o'.2.1 := by
  subst e
  obtain ⟨hv1, hv2⟩ := hv
  unfold fn_X11_feed at h1
  unfold fn_X12_feed at h2
  by_cases c : v ≤ 1180
  · rw [if_pos c] at h1
    rw [if_pos (by lia)] at h2
    obtain ⟨a1, e1, h1⟩ := zb_s h1
    obtain ⟨a2, e2, h1⟩ := zb_s h1
    obtain ⟨a3, e3, h1⟩ := zb_s h1
    obtain ⟨a4, e4, h1⟩ := zb_s h1
    obtain ⟨a5, e5, h1⟩ := zb_s h1
    obtain ⟨b1, d1, h2⟩ := zb_s h2
    obtain ⟨b2, d2, h2⟩ := zb_s h2
    obtain ⟨b3, d3, h2⟩ := zb_s h2
    obtain ⟨b4, d4, h2⟩ := zb_s h2
    obtain ⟨b5, d5, h2⟩ := zb_s h2
    have q1 := zputlen e1 hv1 (by lia)
    have q2 := zputlen e2 (by lia) (by lia)
    have q3 := zputlen e3 (by lia) (by lia)
    have q4 := zputlen e4 (by lia) (by lia)
    have q5 := zputlen e5 (by lia) (by lia)
    have r1 := zlayslen d1
    have r2 := zlayslen d2
    have r3 := zlayslen d3
    have r4 := zlayslen d4
    have r5 := zlayslen d5
    have t1 : a5.1 = v + 20 := by lia
    have t2 : b5.1 = v + 20 := by lia
    rw [← Option.some.inj h1, ← Option.some.inj h2]
    exact ⟨t1.trans t2.symm, t1.trans t2.symm⟩
  · rw [if_neg c] at h1
    rw [if_neg (by lia)] at h2
    obtain ⟨a1, e1, h1⟩ := zb_s h1
    obtain ⟨b1, d1, h2⟩ := zb_s h2
    unfold fn_X11_refuse at e1
    rw [if_neg (by decide +kernel), if_neg (by decide +kernel)] at e1
    obtain ⟨-, e1⟩ := zg_s e1
    unfold fn_X12_refuses at d1
    obtain ⟨-, d1⟩ := zg_s d1
    rw [← Option.some.inj h1, ← Option.some.inj h2, ← Option.some.inj e1, ← Option.some.inj d1]
    exact ⟨rfl, rfl⟩
theorem zeq_end {p v w : Int32} {f g : Nat → Int32} {o o' : Int32 × Int32 × (Nat → Int32)} (e : v = w) (_hv : 0 ≤ v ∧ v ≤ 1200) (h1 : fn_X11_end p v f = some o) (h2 : fn_X12_end p w g = some o') : o.1 = o'.1 ∧ o.2.1 = o'.2.1 := by
  subst e
  unfold fn_X11_end at h1
  unfold fn_X12_end at h2
  by_cases c : p < 0
  · rw [if_pos c] at h1 h2
    obtain ⟨a1, e1, h1⟩ := zb_s h1
    obtain ⟨b1, d1, h2⟩ := zb_s h2
    unfold fn_X12_isRefused at d1
    obtain ⟨-, d1⟩ := zg_s d1
    rw [← Option.some.inj h1, ← Option.some.inj h2, ← Option.some.inj d1]
    exact ⟨rfl, rfl⟩
  · rw [if_neg c] at h1 h2
    by_cases c2 : p ≤ v
    · rw [if_pos c2] at h1 h2
      rw [← Option.some.inj h1, ← Option.some.inj h2]
      exact ⟨rfl, rfl⟩
    · rw [if_neg c2] at h1 h2
      obtain ⟨a1, e1, h1⟩ := zb_s h1
      obtain ⟨b1, d1, h2⟩ := zb_s h2
      unfold fn_X12_isRefused at d1
      obtain ⟨-, d1⟩ := zg_s d1
      rw [← Option.some.inj h1, ← Option.some.inj h2, ← Option.some.inj d1]
      exact ⟨rfl, rfl⟩
theorem zeq_fault {p a b c d : Int32} {o o' : Int32} (e1 : a = c) (e2 : b = d) (h1 : fn_X11_fault p a b = some o) (h2 : fn_X12_fault p c d = some o') : o = o' := by
  subst e1
  subst e2
  unfold fn_X11_fault at h1
  unfold fn_X12_fault at h2
  grind
