/-! decode, by one walk to the bytes -/
noncomputable def zdr (L : List UInt8) : Nat → List UInt8 := List.rec (motive := fun _ => Nat → List UInt8) (fun _ => []) (fun b l ih n => Nat.rec (motive := fun _ => List UInt8) (b :: l) (fun m _ => ih m) n) L
theorem zdr_eq : ∀ (L : List UInt8) (n : Nat), zdr L n = L.drop n := by
  intro L
  induction L with
  | nil => intro n; cases n <;> rfl
  | cons b l ih =>
    intro n
    cases n with
    | zero => rfl
    | succ m => exact ih m
theorem zdr_s {L : List UInt8} {n : Nat} {b : UInt8} {r : List UInt8} (h : zdr L n = b :: r) : zdr L (n + 1) = r := by
  rw [zdr_eq] at h ⊢
  rw [← List.drop_drop, h]
  rfl
theorem zRd1 {c : ByteArray} {p : Nat} {b : UInt8} {r : List UInt8} (h : zdr c.data.toList p = b :: r) : (Jvm.ClassFile.Reader.u1 : Jvm.ClassFile.Decoder Nat) c p = .ok (b.toNat, p + 1) := by
  rw [zdr_eq] at h
  have hl : p < c.data.toList.length := by
    refine Nat.lt_of_not_le (fun q => ?_)
    rw [List.drop_eq_nil_of_le q] at h
    cases h
  have hp : p < c.size := hl
  have hb : c[p] = b := by
    have e1 : c.data.toList[p]? = some b := by
      have := List.getElem?_drop (xs := c.data.toList) (i := p) (j := 0)
      rw [h] at this
      exact this.symm
    have e2 : c.data.toList[p]? = some c.data.toList[p] := List.getElem?_eq_getElem hl
    rw [e2] at e1
    exact Option.some.inj e1
  have e : (Jvm.ClassFile.Reader.u1 : Jvm.ClassFile.Decoder Nat) c p = (if q : p < c.size then (.ok (c[p].toNat, p + 1) : Except Jvm.ClassFile.DecodeError (Nat × Nat)) else .error (Jvm.ClassFile.HasTruncated.truncated p)) := by
    by_cases q : p < c.size
    · rw [dif_pos q]
      show (dite (p < c.size) (fun q => (do set (p + 1); Pure.pure c[p].toNat : Jvm.ClassFile.Decoder Nat)) (fun _ => throw (Jvm.ClassFile.HasTruncated.truncated p)) : Jvm.ClassFile.Decoder Nat) c p = _
      rw [dif_pos q]
      rfl
    · exact absurd hp q
  rw [e, dif_pos hp, hb]
theorem zRd2 {c : ByteArray} {p : Nat} {a b : UInt8} {r : List UInt8} (h : zdr c.data.toList p = a :: b :: r) : (Jvm.ClassFile.Reader.u2 : Jvm.ClassFile.Decoder Nat) c p = .ok (a.toNat * 256 + b.toNat, p + 2) := by
  have e1 := zRd1 h
  have e2 := zRd1 (zdr_s h)
  show Except.bind ((Jvm.ClassFile.Reader.u1 : Jvm.ClassFile.Decoder Nat) c p) (fun x => Except.bind ((Jvm.ClassFile.Reader.u1 : Jvm.ClassFile.Decoder Nat) c x.2) (fun y => .ok (x.1 * 256 + y.1, y.2))) = _
  rw [e1]
  show Except.bind ((Jvm.ClassFile.Reader.u1 : Jvm.ClassFile.Decoder Nat) c (p + 1)) (fun y => .ok (a.toNat * 256 + y.1, y.2)) = _
  rw [e2]
  rfl
theorem zDg {c : ByteArray} {p op : Nat} {b : UInt8} {r : List UInt8} {k : Jvm.ClassFile.Decoder Instr} {i : Instr} {n : Nat} (h : zdr c.data.toList p = b :: r) (hb : b.toNat = op) (hk : ∃ body : Nat → Jvm.ClassFile.Decoder Instr, Jvm.ClassFile.Decoder.instr p = (Jvm.ClassFile.Reader.u1 >>= body) ∧ body op = k) (hr : k c (p + 1) = .ok (i, p + n)) : decode c p = .ok (i, n) := by
  obtain ⟨body, e1, e2⟩ := hk
  have e3 : decode c p = Except.bind (Jvm.ClassFile.Decoder.instr p c p) (fun x => .ok (x.1, x.2 - p)) := rfl
  rw [e3, e1]
  show Except.bind (Except.bind ((Jvm.ClassFile.Reader.u1 : Jvm.ClassFile.Decoder Nat) c p) (fun x => body x.1 c x.2)) _ = _
  rw [zRd1 h]
  show Except.bind (body b.toNat c (p + 1)) _ = _
  rw [hb, e2, hr]
  show Except.ok (i, p + n - p) = _
  rw [Nat.add_sub_cancel_left]
noncomputable def zD0 (c : ByteArray) (p op : Nat) : Bool := match zdr c.data.toList p with
  | b :: _ => Nat.beq b.toNat op
  | [] => false
noncomputable def zD1 (c : ByteArray) (p op n : Nat) : Bool := match zdr c.data.toList p with
  | b :: x :: _ => Nat.beq b.toNat op && Nat.beq x.toNat n
  | _ => false
noncomputable def zD2 (c : ByteArray) (p op n : Nat) : Bool := match zdr c.data.toList p with
  | b :: x :: y :: _ => Nat.beq b.toNat op && Nat.beq (x.toNat * 256 + y.toNat) n
  | _ => false
noncomputable def zE1 (c : ByteArray) (p op : Nat) (v : Int) : Bool := match zdr c.data.toList p with
  | b :: x :: _ => Nat.beq b.toNat op && decide (Jvm.ClassFile.Reader.signed 8 x.toNat = v)
  | _ => false
noncomputable def zE2 (c : ByteArray) (p op : Nat) (v : Int) : Bool := match zdr c.data.toList p with
  | b :: x :: y :: _ => Nat.beq b.toNat op && decide (Jvm.ClassFile.Reader.signed 16 (x.toNat * 256 + y.toNat) = v)
  | _ => false
noncomputable def zDi (c : ByteArray) (p op n : Nat) (v : Int) : Bool := match zdr c.data.toList p with
  | b :: x :: y :: _ => Nat.beq b.toNat op && (Nat.beq x.toNat n && decide (Jvm.ClassFile.Reader.signed 8 y.toNat = v))
  | _ => false
theorem zD0_s {c : ByteArray} {p op : Nat} {i : Instr} (h : zD0 c p op = true) (hk : ∃ body : Nat → Jvm.ClassFile.Decoder Instr, Jvm.ClassFile.Decoder.instr p = (Jvm.ClassFile.Reader.u1 >>= body) ∧ body op = Pure.pure i) : decode c p = .ok (i, 1) := by
  unfold zD0 at h
  split at h
  · rename_i b r e
    exact zDg e (Nat.eq_of_beq_eq_true h) hk rfl
  · cases h
theorem zD1_s {c : ByteArray} {p op n : Nat} {f : Nat → Instr} (h : zD1 c p op n = true) (hk : ∃ body : Nat → Jvm.ClassFile.Decoder Instr, Jvm.ClassFile.Decoder.instr p = (Jvm.ClassFile.Reader.u1 >>= body) ∧ body op = (Jvm.ClassFile.Reader.u1 >>= fun x => Pure.pure (f x))) : decode c p = .ok (f n, 2) := by
  unfold zD1 at h
  split at h
  · rename_i b x r e
    obtain ⟨h1, h2⟩ := (Bool.and_eq_true _ _).mp h
    refine zDg e (Nat.eq_of_beq_eq_true h1) hk ?_
    show Except.bind ((Jvm.ClassFile.Reader.u1 : Jvm.ClassFile.Decoder Nat) c (p + 1)) (fun y => .ok (f y.1, y.2)) = _
    rw [zRd1 (zdr_s e), ← Nat.eq_of_beq_eq_true h2]
    rfl
  · cases h
theorem zD2_s {c : ByteArray} {p op n : Nat} {f : Nat → Instr} (h : zD2 c p op n = true) (hk : ∃ body : Nat → Jvm.ClassFile.Decoder Instr, Jvm.ClassFile.Decoder.instr p = (Jvm.ClassFile.Reader.u1 >>= body) ∧ body op = (Jvm.ClassFile.Reader.u2 >>= fun x => Pure.pure (f x))) : decode c p = .ok (f n, 3) := by
  unfold zD2 at h
  split at h
  · rename_i b x y r e
    obtain ⟨h1, h2⟩ := (Bool.and_eq_true _ _).mp h
    refine zDg e (Nat.eq_of_beq_eq_true h1) hk ?_
    show Except.bind ((Jvm.ClassFile.Reader.u2 : Jvm.ClassFile.Decoder Nat) c (p + 1)) (fun y => .ok (f y.1, y.2)) = _
    rw [zRd2 (zdr_s e), ← Nat.eq_of_beq_eq_true h2]
    rfl
  · cases h
theorem zE1_s {c : ByteArray} {p op : Nat} {v : Int} {f : Int → Instr} (h : zE1 c p op v = true) (hk : ∃ body : Nat → Jvm.ClassFile.Decoder Instr, Jvm.ClassFile.Decoder.instr p = (Jvm.ClassFile.Reader.u1 >>= body) ∧ body op = (Jvm.ClassFile.Reader.s1 >>= fun x => Pure.pure (f x))) : decode c p = .ok (f v, 2) := by
  unfold zE1 at h
  split at h
  · rename_i b x r e
    obtain ⟨h1, h2⟩ := (Bool.and_eq_true _ _).mp h
    refine zDg e (Nat.eq_of_beq_eq_true h1) hk ?_
    show Except.bind ((Jvm.ClassFile.Reader.s1 : Jvm.ClassFile.Decoder Int) c (p + 1)) (fun y => .ok (f y.1, y.2)) = _
    have e2 : (Jvm.ClassFile.Reader.s1 : Jvm.ClassFile.Decoder Int) c (p + 1) = Except.bind ((Jvm.ClassFile.Reader.u1 : Jvm.ClassFile.Decoder Nat) c (p + 1)) (fun y => .ok (Jvm.ClassFile.Reader.signed 8 y.1, y.2)) := rfl
    rw [e2, zRd1 (zdr_s e), ← of_decide_eq_true h2]
    rfl
  · cases h
theorem zE2_s {c : ByteArray} {p op : Nat} {v : Int} {f : Int → Instr} (h : zE2 c p op v = true) (hk : ∃ body : Nat → Jvm.ClassFile.Decoder Instr, Jvm.ClassFile.Decoder.instr p = (Jvm.ClassFile.Reader.u1 >>= body) ∧ body op = (Jvm.ClassFile.Reader.s2 >>= fun x => Pure.pure (f x))) : decode c p = .ok (f v, 3) := by
  unfold zE2 at h
  split at h
  · rename_i b x y r e
    obtain ⟨h1, h2⟩ := (Bool.and_eq_true _ _).mp h
    refine zDg e (Nat.eq_of_beq_eq_true h1) hk ?_
    show Except.bind ((Jvm.ClassFile.Reader.s2 : Jvm.ClassFile.Decoder Int) c (p + 1)) (fun y => .ok (f y.1, y.2)) = _
    have e2 : (Jvm.ClassFile.Reader.s2 : Jvm.ClassFile.Decoder Int) c (p + 1) = Except.bind ((Jvm.ClassFile.Reader.u2 : Jvm.ClassFile.Decoder Nat) c (p + 1)) (fun y => .ok (Jvm.ClassFile.Reader.signed 16 y.1, y.2)) := rfl
    rw [e2, zRd2 (zdr_s e), ← of_decide_eq_true h2]
    rfl
  · cases h
theorem zDi_s {c : ByteArray} {p op n : Nat} {v : Int} {f : Nat → Int → Instr} (h : zDi c p op n v = true) (hk : ∃ body : Nat → Jvm.ClassFile.Decoder Instr, Jvm.ClassFile.Decoder.instr p = (Jvm.ClassFile.Reader.u1 >>= body) ∧ body op = (Jvm.ClassFile.Reader.u1 >>= fun x => Jvm.ClassFile.Reader.s1 >>= fun y => Pure.pure (f x y))) : decode c p = .ok (f n v, 3) := by
  unfold zDi at h
  split at h
  · rename_i b x y r e
    obtain ⟨h1, h2⟩ := (Bool.and_eq_true _ _).mp h
    obtain ⟨h2, h3⟩ := (Bool.and_eq_true _ _).mp h2
    refine zDg e (Nat.eq_of_beq_eq_true h1) hk ?_
    show Except.bind ((Jvm.ClassFile.Reader.u1 : Jvm.ClassFile.Decoder Nat) c (p + 1)) (fun x => Except.bind (Except.bind ((Jvm.ClassFile.Reader.u1 : Jvm.ClassFile.Decoder Nat) c x.2) (fun y => .ok (Jvm.ClassFile.Reader.signed 8 y.1, y.2))) (fun y => .ok (f x.1 y.1, y.2))) = _
    rw [zRd1 (zdr_s e)]
    show Except.bind (Except.bind ((Jvm.ClassFile.Reader.u1 : Jvm.ClassFile.Decoder Nat) c (p + 1 + 1)) (fun y => .ok (Jvm.ClassFile.Reader.signed 8 y.1, y.2))) (fun y => .ok (f x.toNat y.1, y.2)) = _
    rw [zRd1 (zdr_s (zdr_s e)), ← Nat.eq_of_beq_eq_true h2, ← of_decide_eq_true h3]
    rfl
  · cases h
theorem zDn_s {c : ByteArray} {p n : Nat} {i : Instr} (h : zD1 c p 188 n = true) (hk : ∃ body : Nat → Jvm.ClassFile.Decoder Instr, Jvm.ClassFile.Decoder.newarray p = (Jvm.ClassFile.Reader.u1 >>= body) ∧ body n = Pure.pure i) : decode c p = .ok (i, 2) := by
  obtain ⟨body, k1, k2⟩ := hk
  unfold zD1 at h
  split at h
  · rename_i b x r e
    obtain ⟨h1, h2⟩ := (Bool.and_eq_true _ _).mp h
    refine zDg e (Nat.eq_of_beq_eq_true h1) ⟨_, rfl, rfl⟩ ?_
    show Jvm.ClassFile.Decoder.newarray p c (p + 1) = _
    rw [k1]
    show Except.bind ((Jvm.ClassFile.Reader.u1 : Jvm.ClassFile.Decoder Nat) c (p + 1)) (fun y => body y.1 c y.2) = _
    rw [zRd1 (zdr_s e)]
    show body x.toNat c (p + 1 + 1) = _
    rw [Nat.eq_of_beq_eq_true h2, k2]
    rfl
  · cases h
theorem zDc_10 {c : ByteArray} {p : Nat} (h : zD0 c p 10 = true) : decode c p = .ok (.lconst 1, 1) := zD0_s h ⟨_, rfl, rfl⟩
theorem zDc_100 {c : ByteArray} {p : Nat} (h : zD0 c p 100 = true) : decode c p = .ok (.isub, 1) := zD0_s h ⟨_, rfl, rfl⟩
theorem zDc_101 {c : ByteArray} {p : Nat} (h : zD0 c p 101 = true) : decode c p = .ok (.lsub, 1) := zD0_s h ⟨_, rfl, rfl⟩
theorem zDc_104 {c : ByteArray} {p : Nat} (h : zD0 c p 104 = true) : decode c p = .ok (.imul, 1) := zD0_s h ⟨_, rfl, rfl⟩
theorem zDc_105 {c : ByteArray} {p : Nat} (h : zD0 c p 105 = true) : decode c p = .ok (.lmul, 1) := zD0_s h ⟨_, rfl, rfl⟩
theorem zDc_108 {c : ByteArray} {p : Nat} (h : zD0 c p 108 = true) : decode c p = .ok (.idiv, 1) := zD0_s h ⟨_, rfl, rfl⟩
theorem zDc_109 {c : ByteArray} {p : Nat} (h : zD0 c p 109 = true) : decode c p = .ok (.ldiv, 1) := zD0_s h ⟨_, rfl, rfl⟩
theorem zDc_112 {c : ByteArray} {p : Nat} (h : zD0 c p 112 = true) : decode c p = .ok (.irem, 1) := zD0_s h ⟨_, rfl, rfl⟩
theorem zDc_113 {c : ByteArray} {p : Nat} (h : zD0 c p 113 = true) : decode c p = .ok (.lrem, 1) := zD0_s h ⟨_, rfl, rfl⟩
theorem zDc_116 {c : ByteArray} {p : Nat} (h : zD0 c p 116 = true) : decode c p = .ok (.ineg, 1) := zD0_s h ⟨_, rfl, rfl⟩
theorem zDc_117 {c : ByteArray} {p : Nat} (h : zD0 c p 117 = true) : decode c p = .ok (.lneg, 1) := zD0_s h ⟨_, rfl, rfl⟩
theorem zDc_120 {c : ByteArray} {p : Nat} (h : zD0 c p 120 = true) : decode c p = .ok (.ishl, 1) := zD0_s h ⟨_, rfl, rfl⟩
theorem zDc_121 {c : ByteArray} {p : Nat} (h : zD0 c p 121 = true) : decode c p = .ok (.lshl, 1) := zD0_s h ⟨_, rfl, rfl⟩
theorem zDc_122 {c : ByteArray} {p : Nat} (h : zD0 c p 122 = true) : decode c p = .ok (.ishr, 1) := zD0_s h ⟨_, rfl, rfl⟩
theorem zDc_123 {c : ByteArray} {p : Nat} (h : zD0 c p 123 = true) : decode c p = .ok (.lshr, 1) := zD0_s h ⟨_, rfl, rfl⟩
theorem zDc_126 {c : ByteArray} {p : Nat} (h : zD0 c p 126 = true) : decode c p = .ok (.iand, 1) := zD0_s h ⟨_, rfl, rfl⟩
theorem zDc_127 {c : ByteArray} {p : Nat} (h : zD0 c p 127 = true) : decode c p = .ok (.land, 1) := zD0_s h ⟨_, rfl, rfl⟩
theorem zDc_128 {c : ByteArray} {p : Nat} (h : zD0 c p 128 = true) : decode c p = .ok (.ior, 1) := zD0_s h ⟨_, rfl, rfl⟩
theorem zDc_129 {c : ByteArray} {p : Nat} (h : zD0 c p 129 = true) : decode c p = .ok (.lor, 1) := zD0_s h ⟨_, rfl, rfl⟩
theorem zDc_130 {c : ByteArray} {p : Nat} (h : zD0 c p 130 = true) : decode c p = .ok (.ixor, 1) := zD0_s h ⟨_, rfl, rfl⟩
theorem zDc_131 {c : ByteArray} {p : Nat} (h : zD0 c p 131 = true) : decode c p = .ok (.lxor, 1) := zD0_s h ⟨_, rfl, rfl⟩
theorem zDc_132 {c : ByteArray} {p n : Nat} {v : Int} (h : zDi c p 132 n v = true) : decode c p = .ok (.iinc n v, 3) := zDi_s (f := fun x y => .iinc x y) h ⟨_, rfl, rfl⟩
theorem zDc_133 {c : ByteArray} {p : Nat} (h : zD0 c p 133 = true) : decode c p = .ok (.i2l, 1) := zD0_s h ⟨_, rfl, rfl⟩
theorem zDc_136 {c : ByteArray} {p : Nat} (h : zD0 c p 136 = true) : decode c p = .ok (.l2i, 1) := zD0_s h ⟨_, rfl, rfl⟩
theorem zDc_145 {c : ByteArray} {p : Nat} (h : zD0 c p 145 = true) : decode c p = .ok (.i2b, 1) := zD0_s h ⟨_, rfl, rfl⟩
theorem zDc_146 {c : ByteArray} {p : Nat} (h : zD0 c p 146 = true) : decode c p = .ok (.i2c, 1) := zD0_s h ⟨_, rfl, rfl⟩
theorem zDc_148 {c : ByteArray} {p : Nat} (h : zD0 c p 148 = true) : decode c p = .ok (.lcmp, 1) := zD0_s h ⟨_, rfl, rfl⟩
theorem zDc_153 {c : ByteArray} {p : Nat} {n : Int} (h : zE2 c p 153 n = true) : decode c p = .ok (.ifCond .eq n, 3) := zE2_s (f := fun x => .ifCond .eq x) h ⟨_, rfl, rfl⟩
theorem zDc_154 {c : ByteArray} {p : Nat} {n : Int} (h : zE2 c p 154 n = true) : decode c p = .ok (.ifCond .ne n, 3) := zE2_s (f := fun x => .ifCond .ne x) h ⟨_, rfl, rfl⟩
theorem zDc_155 {c : ByteArray} {p : Nat} {n : Int} (h : zE2 c p 155 n = true) : decode c p = .ok (.ifCond .lt n, 3) := zE2_s (f := fun x => .ifCond .lt x) h ⟨_, rfl, rfl⟩
theorem zDc_156 {c : ByteArray} {p : Nat} {n : Int} (h : zE2 c p 156 n = true) : decode c p = .ok (.ifCond .ge n, 3) := zE2_s (f := fun x => .ifCond .ge x) h ⟨_, rfl, rfl⟩
theorem zDc_157 {c : ByteArray} {p : Nat} {n : Int} (h : zE2 c p 157 n = true) : decode c p = .ok (.ifCond .gt n, 3) := zE2_s (f := fun x => .ifCond .gt x) h ⟨_, rfl, rfl⟩
theorem zDc_158 {c : ByteArray} {p : Nat} {n : Int} (h : zE2 c p 158 n = true) : decode c p = .ok (.ifCond .le n, 3) := zE2_s (f := fun x => .ifCond .le x) h ⟨_, rfl, rfl⟩
theorem zDc_159 {c : ByteArray} {p : Nat} {n : Int} (h : zE2 c p 159 n = true) : decode c p = .ok (.if_icmp .eq n, 3) := zE2_s (f := fun x => .if_icmp .eq x) h ⟨_, rfl, rfl⟩
theorem zDc_16 {c : ByteArray} {p : Nat} {n : Int} (h : zE1 c p 16 n = true) : decode c p = .ok (.bipush n, 2) := zE1_s (f := fun x => .bipush x) h ⟨_, rfl, rfl⟩
theorem zDc_160 {c : ByteArray} {p : Nat} {n : Int} (h : zE2 c p 160 n = true) : decode c p = .ok (.if_icmp .ne n, 3) := zE2_s (f := fun x => .if_icmp .ne x) h ⟨_, rfl, rfl⟩
theorem zDc_161 {c : ByteArray} {p : Nat} {n : Int} (h : zE2 c p 161 n = true) : decode c p = .ok (.if_icmp .lt n, 3) := zE2_s (f := fun x => .if_icmp .lt x) h ⟨_, rfl, rfl⟩
theorem zDc_162 {c : ByteArray} {p : Nat} {n : Int} (h : zE2 c p 162 n = true) : decode c p = .ok (.if_icmp .ge n, 3) := zE2_s (f := fun x => .if_icmp .ge x) h ⟨_, rfl, rfl⟩
theorem zDc_163 {c : ByteArray} {p : Nat} {n : Int} (h : zE2 c p 163 n = true) : decode c p = .ok (.if_icmp .gt n, 3) := zE2_s (f := fun x => .if_icmp .gt x) h ⟨_, rfl, rfl⟩
theorem zDc_164 {c : ByteArray} {p : Nat} {n : Int} (h : zE2 c p 164 n = true) : decode c p = .ok (.if_icmp .le n, 3) := zE2_s (f := fun x => .if_icmp .le x) h ⟨_, rfl, rfl⟩
theorem zDc_167 {c : ByteArray} {p : Nat} {n : Int} (h : zE2 c p 167 n = true) : decode c p = .ok (.goto n, 3) := zE2_s (f := fun x => .goto x) h ⟨_, rfl, rfl⟩
theorem zDc_17 {c : ByteArray} {p : Nat} {n : Int} (h : zE2 c p 17 n = true) : decode c p = .ok (.sipush n, 3) := zE2_s (f := fun x => .sipush x) h ⟨_, rfl, rfl⟩
theorem zDc_172 {c : ByteArray} {p : Nat} (h : zD0 c p 172 = true) : decode c p = .ok (.ireturn, 1) := zD0_s h ⟨_, rfl, rfl⟩
theorem zDc_173 {c : ByteArray} {p : Nat} (h : zD0 c p 173 = true) : decode c p = .ok (.lreturn, 1) := zD0_s h ⟨_, rfl, rfl⟩
theorem zDc_177 {c : ByteArray} {p : Nat} (h : zD0 c p 177 = true) : decode c p = .ok (.return_, 1) := zD0_s h ⟨_, rfl, rfl⟩
theorem zDc_178 {c : ByteArray} {p : Nat} {n : Nat} (h : zD2 c p 178 n = true) : decode c p = .ok (.getstatic n, 3) := zD2_s (f := fun x => .getstatic x) h ⟨_, rfl, rfl⟩
theorem zDc_18 {c : ByteArray} {p : Nat} {n : Nat} (h : zD1 c p 18 n = true) : decode c p = .ok (.ldc n, 2) := zD1_s (f := fun x => .ldc x) h ⟨_, rfl, rfl⟩
theorem zDc_180 {c : ByteArray} {p : Nat} {n : Nat} (h : zD2 c p 180 n = true) : decode c p = .ok (.getfield n, 3) := zD2_s (f := fun x => .getfield x) h ⟨_, rfl, rfl⟩
theorem zDc_181 {c : ByteArray} {p : Nat} {n : Nat} (h : zD2 c p 181 n = true) : decode c p = .ok (.putfield n, 3) := zD2_s (f := fun x => .putfield x) h ⟨_, rfl, rfl⟩
theorem zDc_182 {c : ByteArray} {p : Nat} {n : Nat} (h : zD2 c p 182 n = true) : decode c p = .ok (.invokevirtual n, 3) := zD2_s (f := fun x => .invokevirtual x) h ⟨_, rfl, rfl⟩
theorem zDc_183 {c : ByteArray} {p : Nat} {n : Nat} (h : zD2 c p 183 n = true) : decode c p = .ok (.invokespecial n, 3) := zD2_s (f := fun x => .invokespecial x) h ⟨_, rfl, rfl⟩
theorem zDc_184 {c : ByteArray} {p : Nat} {n : Nat} (h : zD2 c p 184 n = true) : decode c p = .ok (.invokestatic n, 3) := zD2_s (f := fun x => .invokestatic x) h ⟨_, rfl, rfl⟩
theorem zDc_187 {c : ByteArray} {p : Nat} {n : Nat} (h : zD2 c p 187 n = true) : decode c p = .ok (.new n, 3) := zD2_s (f := fun x => .new x) h ⟨_, rfl, rfl⟩
theorem zDc_188_10 {c : ByteArray} {p : Nat} (h : zD1 c p 188 10 = true) : decode c p = .ok (.newarray .int, 2) := zDn_s h ⟨_, rfl, rfl⟩
theorem zDc_188_11 {c : ByteArray} {p : Nat} (h : zD1 c p 188 11 = true) : decode c p = .ok (.newarray .long, 2) := zDn_s h ⟨_, rfl, rfl⟩
theorem zDc_188_4 {c : ByteArray} {p : Nat} (h : zD1 c p 188 4 = true) : decode c p = .ok (.newarray .boolean, 2) := zDn_s h ⟨_, rfl, rfl⟩
theorem zDc_188_8 {c : ByteArray} {p : Nat} (h : zD1 c p 188 8 = true) : decode c p = .ok (.newarray .byte, 2) := zDn_s h ⟨_, rfl, rfl⟩
theorem zDc_19 {c : ByteArray} {p : Nat} {n : Nat} (h : zD2 c p 19 n = true) : decode c p = .ok (.ldc_w n, 3) := zD2_s (f := fun x => .ldc_w x) h ⟨_, rfl, rfl⟩
theorem zDc_190 {c : ByteArray} {p : Nat} (h : zD0 c p 190 = true) : decode c p = .ok (.arraylength, 1) := zD0_s h ⟨_, rfl, rfl⟩
theorem zDc_2 {c : ByteArray} {p : Nat} (h : zD0 c p 2 = true) : decode c p = .ok (.iconst (-1), 1) := zD0_s h ⟨_, rfl, rfl⟩
theorem zDc_20 {c : ByteArray} {p : Nat} {n : Nat} (h : zD2 c p 20 n = true) : decode c p = .ok (.ldc2_w n, 3) := zD2_s (f := fun x => .ldc2_w x) h ⟨_, rfl, rfl⟩
theorem zDc_21 {c : ByteArray} {p : Nat} {n : Nat} (h : zD1 c p 21 n = true) : decode c p = .ok (.iload n, 2) := zD1_s (f := fun x => .iload x) h ⟨_, rfl, rfl⟩
theorem zDc_22 {c : ByteArray} {p : Nat} {n : Nat} (h : zD1 c p 22 n = true) : decode c p = .ok (.lload n, 2) := zD1_s (f := fun x => .lload x) h ⟨_, rfl, rfl⟩
theorem zDc_25 {c : ByteArray} {p : Nat} {n : Nat} (h : zD1 c p 25 n = true) : decode c p = .ok (.aload n, 2) := zD1_s (f := fun x => .aload x) h ⟨_, rfl, rfl⟩
theorem zDc_26 {c : ByteArray} {p : Nat} (h : zD0 c p 26 = true) : decode c p = .ok (.iload_n 0, 1) := zD0_s h ⟨_, rfl, rfl⟩
theorem zDc_27 {c : ByteArray} {p : Nat} (h : zD0 c p 27 = true) : decode c p = .ok (.iload_n 1, 1) := zD0_s h ⟨_, rfl, rfl⟩
theorem zDc_28 {c : ByteArray} {p : Nat} (h : zD0 c p 28 = true) : decode c p = .ok (.iload_n 2, 1) := zD0_s h ⟨_, rfl, rfl⟩
theorem zDc_29 {c : ByteArray} {p : Nat} (h : zD0 c p 29 = true) : decode c p = .ok (.iload_n 3, 1) := zD0_s h ⟨_, rfl, rfl⟩
theorem zDc_3 {c : ByteArray} {p : Nat} (h : zD0 c p 3 = true) : decode c p = .ok (.iconst 0, 1) := zD0_s h ⟨_, rfl, rfl⟩
theorem zDc_30 {c : ByteArray} {p : Nat} (h : zD0 c p 30 = true) : decode c p = .ok (.lload_n 0, 1) := zD0_s h ⟨_, rfl, rfl⟩
theorem zDc_31 {c : ByteArray} {p : Nat} (h : zD0 c p 31 = true) : decode c p = .ok (.lload_n 1, 1) := zD0_s h ⟨_, rfl, rfl⟩
theorem zDc_32 {c : ByteArray} {p : Nat} (h : zD0 c p 32 = true) : decode c p = .ok (.lload_n 2, 1) := zD0_s h ⟨_, rfl, rfl⟩
theorem zDc_33 {c : ByteArray} {p : Nat} (h : zD0 c p 33 = true) : decode c p = .ok (.lload_n 3, 1) := zD0_s h ⟨_, rfl, rfl⟩
theorem zDc_4 {c : ByteArray} {p : Nat} (h : zD0 c p 4 = true) : decode c p = .ok (.iconst 1, 1) := zD0_s h ⟨_, rfl, rfl⟩
theorem zDc_42 {c : ByteArray} {p : Nat} (h : zD0 c p 42 = true) : decode c p = .ok (.aload_n 0, 1) := zD0_s h ⟨_, rfl, rfl⟩
theorem zDc_43 {c : ByteArray} {p : Nat} (h : zD0 c p 43 = true) : decode c p = .ok (.aload_n 1, 1) := zD0_s h ⟨_, rfl, rfl⟩
theorem zDc_44 {c : ByteArray} {p : Nat} (h : zD0 c p 44 = true) : decode c p = .ok (.aload_n 2, 1) := zD0_s h ⟨_, rfl, rfl⟩
theorem zDc_45 {c : ByteArray} {p : Nat} (h : zD0 c p 45 = true) : decode c p = .ok (.aload_n 3, 1) := zD0_s h ⟨_, rfl, rfl⟩
theorem zDc_46 {c : ByteArray} {p : Nat} (h : zD0 c p 46 = true) : decode c p = .ok (.iaload, 1) := zD0_s h ⟨_, rfl, rfl⟩
theorem zDc_47 {c : ByteArray} {p : Nat} (h : zD0 c p 47 = true) : decode c p = .ok (.laload, 1) := zD0_s h ⟨_, rfl, rfl⟩
theorem zDc_5 {c : ByteArray} {p : Nat} (h : zD0 c p 5 = true) : decode c p = .ok (.iconst 2, 1) := zD0_s h ⟨_, rfl, rfl⟩
theorem zDc_51 {c : ByteArray} {p : Nat} (h : zD0 c p 51 = true) : decode c p = .ok (.baload, 1) := zD0_s h ⟨_, rfl, rfl⟩
theorem zDc_54 {c : ByteArray} {p : Nat} {n : Nat} (h : zD1 c p 54 n = true) : decode c p = .ok (.istore n, 2) := zD1_s (f := fun x => .istore x) h ⟨_, rfl, rfl⟩
theorem zDc_55 {c : ByteArray} {p : Nat} {n : Nat} (h : zD1 c p 55 n = true) : decode c p = .ok (.lstore n, 2) := zD1_s (f := fun x => .lstore x) h ⟨_, rfl, rfl⟩
theorem zDc_6 {c : ByteArray} {p : Nat} (h : zD0 c p 6 = true) : decode c p = .ok (.iconst 3, 1) := zD0_s h ⟨_, rfl, rfl⟩
theorem zDc_60 {c : ByteArray} {p : Nat} (h : zD0 c p 60 = true) : decode c p = .ok (.istore_n 1, 1) := zD0_s h ⟨_, rfl, rfl⟩
theorem zDc_61 {c : ByteArray} {p : Nat} (h : zD0 c p 61 = true) : decode c p = .ok (.istore_n 2, 1) := zD0_s h ⟨_, rfl, rfl⟩
theorem zDc_62 {c : ByteArray} {p : Nat} (h : zD0 c p 62 = true) : decode c p = .ok (.istore_n 3, 1) := zD0_s h ⟨_, rfl, rfl⟩
theorem zDc_64 {c : ByteArray} {p : Nat} (h : zD0 c p 64 = true) : decode c p = .ok (.lstore_n 1, 1) := zD0_s h ⟨_, rfl, rfl⟩
theorem zDc_65 {c : ByteArray} {p : Nat} (h : zD0 c p 65 = true) : decode c p = .ok (.lstore_n 2, 1) := zD0_s h ⟨_, rfl, rfl⟩
theorem zDc_66 {c : ByteArray} {p : Nat} (h : zD0 c p 66 = true) : decode c p = .ok (.lstore_n 3, 1) := zD0_s h ⟨_, rfl, rfl⟩
theorem zDc_7 {c : ByteArray} {p : Nat} (h : zD0 c p 7 = true) : decode c p = .ok (.iconst 4, 1) := zD0_s h ⟨_, rfl, rfl⟩
theorem zDc_76 {c : ByteArray} {p : Nat} (h : zD0 c p 76 = true) : decode c p = .ok (.astore_n 1, 1) := zD0_s h ⟨_, rfl, rfl⟩
theorem zDc_77 {c : ByteArray} {p : Nat} (h : zD0 c p 77 = true) : decode c p = .ok (.astore_n 2, 1) := zD0_s h ⟨_, rfl, rfl⟩
theorem zDc_79 {c : ByteArray} {p : Nat} (h : zD0 c p 79 = true) : decode c p = .ok (.iastore, 1) := zD0_s h ⟨_, rfl, rfl⟩
theorem zDc_8 {c : ByteArray} {p : Nat} (h : zD0 c p 8 = true) : decode c p = .ok (.iconst 5, 1) := zD0_s h ⟨_, rfl, rfl⟩
theorem zDc_80 {c : ByteArray} {p : Nat} (h : zD0 c p 80 = true) : decode c p = .ok (.lastore, 1) := zD0_s h ⟨_, rfl, rfl⟩
theorem zDc_84 {c : ByteArray} {p : Nat} (h : zD0 c p 84 = true) : decode c p = .ok (.bastore, 1) := zD0_s h ⟨_, rfl, rfl⟩
theorem zDc_87 {c : ByteArray} {p : Nat} (h : zD0 c p 87 = true) : decode c p = .ok (.pop, 1) := zD0_s h ⟨_, rfl, rfl⟩
theorem zDc_88 {c : ByteArray} {p : Nat} (h : zD0 c p 88 = true) : decode c p = .ok (.pop2, 1) := zD0_s h ⟨_, rfl, rfl⟩
theorem zDc_89 {c : ByteArray} {p : Nat} (h : zD0 c p 89 = true) : decode c p = .ok (.dup, 1) := zD0_s h ⟨_, rfl, rfl⟩
theorem zDc_9 {c : ByteArray} {p : Nat} (h : zD0 c p 9 = true) : decode c p = .ok (.lconst 0, 1) := zD0_s h ⟨_, rfl, rfl⟩
theorem zDc_92 {c : ByteArray} {p : Nat} (h : zD0 c p 92 = true) : decode c p = .ok (.dup2, 1) := zD0_s h ⟨_, rfl, rfl⟩
theorem zDc_96 {c : ByteArray} {p : Nat} (h : zD0 c p 96 = true) : decode c p = .ok (.iadd, 1) := zD0_s h ⟨_, rfl, rfl⟩
theorem zDc_97 {c : ByteArray} {p : Nat} (h : zD0 c p 97 = true) : decode c p = .ok (.ladd, 1) := zD0_s h ⟨_, rfl, rfl⟩
