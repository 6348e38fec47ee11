/-! letters laid into one number -/
theorem zposN {x : Int32} (h : 0 ≤ x.toInt) : (x.toBitVec.toNat : Int) = x.toInt := by
  have h1 := BitVec.toInt_eq_toNat_cond x.toBitVec
  have h2 : x.toInt = x.toBitVec.toInt := rfl
  have h3 := x.toBitVec.isLt
  rw [h2] at h ⊢
  rw [h1] at h ⊢
  split at h
  · rw [if_pos (by assumption)]
  · omega
theorem ztoI {x : Int32} {n : Nat} (h : x.toBitVec.toNat = n) (hn : n < 2147483648) : x.toInt = (n : Int) := by
  have h1 := BitVec.toInt_eq_toNat_cond x.toBitVec
  have h2 : x.toInt = x.toBitVec.toInt := rfl
  rw [h2, h1, h, if_pos (by omega)]
theorem zorN (V X k : Nat) (hd : V % 2 ^ (k + 5) = 0) (hX : X < 32) : V ||| (X <<< k) = V + X * 2 ^ k := by
  have h2 : X <<< k < 2 ^ (k + 5) := by
    rw [Nat.shiftLeft_eq, Nat.pow_add, Nat.mul_comm (2 ^ k)]
    exact Nat.mul_lt_mul_of_pos_right (show X < 2 ^ 5 from hX) (Nat.two_pow_pos k)
  have h1 : V = (V / 2 ^ (k + 5)) <<< (k + 5) := by
    rw [Nat.shiftLeft_eq]
    exact (Nat.div_mul_cancel (Nat.dvd_of_mod_eq_zero hd)).symm
  generalize V / 2 ^ (k + 5) = a at h1
  subst h1
  rw [← Nat.shiftLeft_add_eq_or_of_lt h2, Nat.shiftLeft_eq X k]
theorem zorI {v x sh : Int32} {V X : Int} (k : Nat) (hk : k ≤ 25) (hsh : ∀ y : Int32, (y <<< sh).toBitVec = y.toBitVec <<< k) (hv : v.toInt = V) (hV : 0 ≤ V ∧ V < 1073741824) (hd : V % ((2 ^ (k + 5) : Nat) : Int) = 0) (hx : x.toInt = X) (hX : 0 ≤ X ∧ X < 32) : (v ||| (x <<< sh)).toInt = V + X * ((2 ^ k : Nat) : Int) := by
  have a1 := zposN (x := v) (by omega)
  have a2 := zposN (x := x) (by omega)
  have hk2 : 2 ^ k ≤ 2 ^ 25 := Nat.pow_le_pow_right (by decide) hk
  have e1 : (v ||| (x <<< sh)).toBitVec.toNat = v.toBitVec.toNat + x.toBitVec.toNat * 2 ^ k := by
    have e2 : (v ||| (x <<< sh)).toBitVec = v.toBitVec ||| (x <<< sh).toBitVec := rfl
    rw [e2, hsh, BitVec.toNat_or, BitVec.toNat_shiftLeft]
    have e3 : x.toBitVec.toNat <<< k < 2 ^ 32 := by
      rw [Nat.shiftLeft_eq]
      have : x.toBitVec.toNat * 2 ^ k ≤ 31 * 2 ^ 25 := Nat.mul_le_mul (by omega) hk2
      omega
    rw [Nat.mod_eq_of_lt e3]
    refine zorN _ _ _ ?_ (by omega)
    have : ((v.toBitVec.toNat % 2 ^ (k + 5) : Nat) : Int) = 0 := by
      rw [Int.natCast_emod, a1, hv]
      exact hd
    omega
  have e4 : x.toBitVec.toNat * 2 ^ k ≤ 31 * 2 ^ 25 := Nat.mul_le_mul (by omega) hk2
  have e5 := ztoI e1 (by omega)
  rw [e5, Int.natCast_add, Int.natCast_mul, a1, a2, hv, hx]
theorem zsh25 (y : Int32) : (y <<< (25 : Int32)).toBitVec = y.toBitVec <<< (25 : Nat) := rfl
theorem zsh20 (y : Int32) : (y <<< (20 : Int32)).toBitVec = y.toBitVec <<< (20 : Nat) := rfl
theorem zsh15 (y : Int32) : (y <<< (15 : Int32)).toBitVec = y.toBitVec <<< (15 : Nat) := rfl
theorem zsh10 (y : Int32) : (y <<< (10 : Int32)).toBitVec = y.toBitVec <<< (10 : Nat) := rfl
theorem zsh5 (y : Int32) : (y <<< (5 : Int32)).toBitVec = y.toBitVec <<< (5 : Nat) := rfl
theorem zsh0 (y : Int32) : (y <<< (0 : Int32)).toBitVec = y.toBitVec <<< (0 : Nat) := rfl
theorem zLet {g : Nat → Int32} {s : Nat} (k : Nat) (hk : k < 6) {v c p : Int32} (hv : v.toInt = zCV (zLV g s k)) (hl : ∀ i : Nat, i < k → 97 ≤ (g (s + i)).toInt ∧ (g (s + i)).toInt ≤ 122) (hc : c = g (s + k)) (hcr : 97 ≤ c.toInt ∧ c.toInt ≤ 122) (hp : p.toInt = (k : Int) + 1) : (v ||| ((c - 97 + 1) <<< ((5 * (6 - p)) &&& 31))).toInt = zCV (zLV g s (k + 1)) := by
  have k1 := zo_sub (x := c) (y := 97) (z := c - 97) rfl rfl (by decide +kernel : (97 : Int32).toInt = 97) (by omega)
  have k2 := zo_add (x := c - 97) (y := 1) (z := c - 97 + 1) rfl k1 zi_1' (by omega)
  rw [hc] at hcr k2
  rw [hc]
  clear k1 hc
  match k, hk with
  | 0, _ =>
    have e : p = 1 := Int32.toInt_inj.mp (by rw [hp]; decide +kernel)
    subst e
    have := zorI 25 (by decide) zsh25 hv (by simp [zCV, zLV]) (by simp [zCV, zLV]) k2 (by omega)
    rw [show ((5 * (6 - 1)) &&& 31 : Int32) = 25 by decide +kernel, this]
    simp [zCV, zLV]
    omega
  | 1, _ =>
    have e : p = 2 := Int32.toInt_inj.mp (by rw [hp]; decide +kernel)
    subst e
    have l0 := hl 0 (by decide)
    simp only [Nat.add_zero] at l0
    have := zorI 20 (by decide) zsh20 hv (by simp [zCV, zLV] <;> omega) (by simp [zCV, zLV] <;> omega) k2 (by omega)
    rw [show ((5 * (6 - 2)) &&& 31 : Int32) = 20 by decide +kernel, this]
    simp [zCV, zLV]
    omega
  | 2, _ =>
    have e : p = 3 := Int32.toInt_inj.mp (by rw [hp]; decide +kernel)
    subst e
    have l0 := hl 0 (by decide)
    have l1 := hl 1 (by decide)
    simp only [Nat.add_zero] at l0
    have := zorI 15 (by decide) zsh15 hv (by simp [zCV, zLV] <;> omega) (by simp [zCV, zLV] <;> omega) k2 (by omega)
    rw [show ((5 * (6 - 3)) &&& 31 : Int32) = 15 by decide +kernel, this]
    simp [zCV, zLV]
    omega
  | 3, _ =>
    have e : p = 4 := Int32.toInt_inj.mp (by rw [hp]; decide +kernel)
    subst e
    have l0 := hl 0 (by decide)
    have l1 := hl 1 (by decide)
    have l2 := hl 2 (by decide)
    simp only [Nat.add_zero] at l0
    have := zorI 10 (by decide) zsh10 hv (by simp [zCV, zLV] <;> omega) (by simp [zCV, zLV] <;> omega) k2 (by omega)
    rw [show ((5 * (6 - 4)) &&& 31 : Int32) = 10 by decide +kernel, this]
    simp [zCV, zLV]
    omega
  | 4, _ =>
    have e : p = 5 := Int32.toInt_inj.mp (by rw [hp]; decide +kernel)
    subst e
    have l0 := hl 0 (by decide)
    have l1 := hl 1 (by decide)
    have l2 := hl 2 (by decide)
    have l3 := hl 3 (by decide)
    simp only [Nat.add_zero] at l0
    have := zorI 5 (by decide) zsh5 hv (by simp [zCV, zLV] <;> omega) (by simp [zCV, zLV] <;> omega) k2 (by omega)
    rw [show ((5 * (6 - 5)) &&& 31 : Int32) = 5 by decide +kernel, this]
    simp [zCV, zLV]
    omega
  | 5, _ =>
    have e : p = 6 := Int32.toInt_inj.mp (by rw [hp]; decide +kernel)
    subst e
    have l0 := hl 0 (by decide)
    have l1 := hl 1 (by decide)
    have l2 := hl 2 (by decide)
    have l3 := hl 3 (by decide)
    have l4 := hl 4 (by decide)
    simp only [Nat.add_zero] at l0
    have := zorI 0 (by decide) zsh0 hv (by simp [zCV, zLV] <;> omega) (by simp [zCV, zLV] <;> omega) k2 (by omega)
    rw [show ((5 * (6 - 6)) &&& 31 : Int32) = 0 by decide +kernel, this]
    simp [zCV, zLV]
    omega
/-! the class's own words -/
noncomputable def zOwT (k : Nat) : Int32 := ([217658420, 658685952, 452579328, 117035008, 102354944, 317216384, 408551424, 446103552, 438042624, 211555456, 254268928, 48880818, 781852974] : List Int32).getD k 0
theorem zFind {p : Int32} {f1 : Nat → Int32} (h : ∀ w : Nat, w < 13 → f1 w = zOwT w) : zw (fn_X10_findOwn p f1) (fun r => r = (-1) ∧ (∀ w : Nat, w < 13 → ¬ zOwT w = p) ∨ 0 ≤ r ∧ r < 13 ∧ zOwT r.toNatClampNeg = p) := by
  unfold fn_X10_findOwn
  refine zw_zl32 (fun s_1 => 0 ≤ s_1 ∧ s_1 ≤ 13 ∧ (∀ w : Nat, (w : Int) < s_1.toInt → ¬ zOwT w = p)) (fun s_1 => 13 - s_1) ⟨by decide, by decide, fun w hw => by rw [zi_0] at hw; omega⟩ (by (try dsimp only); decide) (fun s_1 back_1 H h1 => ?_)
  obtain ⟨H1, H2, H3⟩ := H
  have k13 : (13 : Int32).toInt = 13 := by decide +kernel
  refine zw_if (fun c => ?_) (fun c => ?_)
  · refine zw_some (Or.inl ⟨rfl, fun w hw => H3 w ?_⟩)
    have := Int32.le_iff_toInt_le.mp c
    omega
  have c13 : s_1.toInt < 13 := by
    have := Int32.lt_iff_toInt_lt.mp (show s_1 < 13 by grind)
    omega
  have c0 := Int32.le_iff_toInt_le.mp H1
  rw [zi_0] at c0
  have ew : f1 s_1.toNatClampNeg = zOwT s_1.toNatClampNeg := h _ (by show s_1.toInt.toNat < 13; omega)
  refine zw_zg32 13 (by decide) ⟨H1, by grind⟩ ?_
  refine zw_if (fun d => ?_) (fun d => ?_)
  · exact zw_some (Or.inr ⟨H1, by grind, by rw [← ew]; exact d⟩)
  refine h1 _ ⟨by grind, by grind, fun w hw => ?_⟩ (by (try dsimp only); grind) (by (try dsimp only); grind)
  have e1 := zo_add (x := s_1) (y := 1) (z := s_1 + 1) rfl rfl zi_1' (by omega)
  rw [e1] at hw
  by_cases q : (w : Int) < s_1.toInt
  · exact H3 w q
  · have : w = s_1.toNatClampNeg := by show w = s_1.toInt.toNat; omega
    rw [this, ← ew]; exact d
/-! the word, number or sign that comes next -/
noncomputable def zJn (n : Int32) (g : Nat → Int32) (a s : Int32) : Prop := s = a ∧ (zK n g (a - 1) = 1 ∨ zK n g (a - 1) = 2)
noncomputable def zOwS (v o : Int32) : Prop := o = (-1) ∧ (∀ w : Nat, w < 13 → ¬ zOwT w = v) ∨ 0 ≤ o ∧ o < 13 ∧ zOwT o.toNatClampNeg = v
noncomputable def zSz (s e : Int32) : Nat := (e - s).toNatClampNeg
noncomputable def zTok (n : Int32) (f g : Nat → Int32) (a e k s v o : Int32) : Prop :=
  zSk n g a s ∧ s ≤ e ∧ e ≤ n ∧
  (zK n g s = 0 ∧ e = s ∧ k = 0 ∧ o = (-1)
  ∨ zK n g s = 3 ∧ e = s + 1 ∧ k = 3 ∧ v = f s.toNatClampNeg ∧ o = (-1)
  ∨ zK n g s = 1 ∧ zRun n g 1 s e ∧ (zJn n g a s ∨ 6 < e - s) ∧ k = 4 ∧ o = (-1)
  ∨ zK n g s = 1 ∧ zRun n g 1 s e ∧ ¬ zJn n g a s ∧ e - s ≤ 6 ∧ k = 1 ∧ v.toInt = zCV (zLV g s.toNatClampNeg (zSz s e)) ∧ zOwS v o
  ∨ zK n g s = 2 ∧ zRun n g 2 s e ∧ (zJn n g a s ∨ 8 < e - s) ∧ k = 4 ∧ o = (-1)
  ∨ zK n g s = 2 ∧ zRun n g 2 s e ∧ ¬ zJn n g a s ∧ e - s ≤ 8 ∧ k = 2 ∧ v.toInt = zDV g s.toNatClampNeg (zSz s e) ∧ o = (-1))
/-! what the loop over a run keeps -/
noncomputable def zRd (n : Int32) (f g : Nat → Int32) (k s : Int32) (z p v : Int32) : Prop :=
  s ≤ p ∧ p ≤ n ∧ z = p - s ∧ (∀ i : Int32, s ≤ i → i < p → zK n g i = k) ∧ (k = 3 → z ≤ 1 ∧ (z = 1 → v = f s.toNatClampNeg)) ∧ (k = 1 → z ≤ 6 → v.toInt = zCV (zLV g s.toNatClampNeg z.toNatClampNeg)) ∧ (k = 2 → z ≤ 8 → v.toInt = zDV g s.toNatClampNeg z.toNatClampNeg)
theorem zRd_0 {n s k : Int32} {f g : Nat → Int32} (hs : s ≤ n) : zRd n f g k s 0 s 0 := by
  refine ⟨by grind, hs, by grind, fun i h1 h2 => by grind, fun _ => ⟨by decide, fun h => absurd h (by decide)⟩, fun _ _ => ?_, fun _ _ => ?_⟩
  · rw [zi_0, zn01.1]; rfl
  · rw [zi_0, zn01.1]; rfl
theorem zNx {p : Int32} (h0 : 0 ≤ p) (h1 : p ≤ 1200) : (p + 1).toNatClampNeg = p.toNatClampNeg + 1 := by
  have a0 := Int32.le_iff_toInt_le.mp h0
  have a1 := Int32.le_iff_toInt_le.mp h1
  rw [zi_0] at a0
  rw [show (1200 : Int32).toInt = 1200 by decide +kernel] at a1
  have e := zo_add (x := p) (y := 1) (z := p + 1) rfl rfl zi_1' (by omega)
  show (p + 1).toInt.toNat = p.toInt.toNat + 1
  omega
theorem zAdN {s p : Int32} (h0 : 0 ≤ s) (h1 : s ≤ p) (h2 : p ≤ 1200) : s.toNatClampNeg + (p - s).toNatClampNeg = p.toNatClampNeg ∧ ((p - s).toNatClampNeg : Int) = (p - s).toInt ∧ (p - s).toInt = p.toInt - s.toInt ∧ 0 ≤ s.toInt ∧ s.toInt ≤ p.toInt ∧ p.toInt ≤ 1200 := by
  have a0 := Int32.le_iff_toInt_le.mp h0
  have a1 := Int32.le_iff_toInt_le.mp h1
  have a2 := Int32.le_iff_toInt_le.mp h2
  rw [zi_0] at a0
  rw [show (1200 : Int32).toInt = 1200 by decide +kernel] at a2
  have e := zo_sub (x := p) (y := s) (z := p - s) rfl rfl rfl (by omega)
  refine ⟨?_, ?_, e, a0, a1, a2⟩
  · show s.toInt.toNat + (p - s).toInt.toNat = p.toInt.toNat
    omega
  · show (((p - s).toInt.toNat : Nat) : Int) = (p - s).toInt
    omega
theorem zRun_l {n k s p : Int32} {g : Nat → Int32} (h0 : 0 ≤ s) (h1 : s ≤ p) (h2 : p ≤ n) (hn : n ≤ 1200) (hr : ∀ i : Int32, s ≤ i → i < p → zK n g i = k) (i : Nat) (hi : i < (p - s).toNatClampNeg) : zKd (g (s.toNatClampNeg + i)) = k := by
  obtain ⟨a1, a2, a3, a4, a5, a6⟩ := zAdN h0 h1 (by grind : p ≤ 1200)
  have hlt : i < 1200 := by omega
  have e1 : (Int32.ofNat i).toInt = (i : Int) := Int32.toInt_ofNat_of_lt (by omega)
  have e2 := zo_add (x := s) (y := Int32.ofNat i) (z := s + Int32.ofNat i) rfl rfl e1 (by omega)
  have e3 : s ≤ s + Int32.ofNat i := Int32.le_iff_toInt_le.mpr (by omega)
  have e4 : s + Int32.ofNat i < p := Int32.lt_iff_toInt_lt.mpr (by omega)
  have e5 := hr _ e3 e4
  rw [zK_at (by grind) (by grind)] at e5
  have e6 : (s + Int32.ofNat i).toNatClampNeg = s.toNatClampNeg + i := by
    show (s + Int32.ofNat i).toInt.toNat = s.toInt.toNat + i
    omega
  rw [e6] at e5
  exact e5
theorem zKd1 {c : Int32} (h : zKd c = 1) : 97 ≤ c.toInt ∧ c.toInt ≤ 122 := by
  have h1 : 97 ≤ c ∧ c ≤ 122 := by
    have := zKd_c c
    grind
  have a := Int32.le_iff_toInt_le.mp h1.1
  have b := Int32.le_iff_toInt_le.mp h1.2
  rw [show (97 : Int32).toInt = 97 by decide +kernel] at a
  rw [show (122 : Int32).toInt = 122 by decide +kernel] at b
  exact ⟨a, b⟩
theorem zKd2 {c : Int32} (h : zKd c = 2) : 48 ≤ c.toInt ∧ c.toInt ≤ 57 := by
  have h1 : 48 ≤ c ∧ c ≤ 57 := by
    have := zKd_c c
    grind
  have a := Int32.le_iff_toInt_le.mp h1.1
  have b := Int32.le_iff_toInt_le.mp h1.2
  rw [show (48 : Int32).toInt = 48 by decide +kernel] at a
  rw [show (57 : Int32).toInt = 57 by decide +kernel] at b
  exact ⟨a, b⟩
theorem zRd_s {n s k z p v : Int32} {f g : Nat → Int32} (hn : n ≤ 1200) (hs : 0 ≤ s) (ht : zTp f g) (hp : p < n) (hk : zKd (g p.toNatClampNeg) = k) (h3 : k = 3 → z = 0) (H : zRd n f g k s z p v) : zw (fn_X10_addByte (f p.toNatClampNeg) (z + 1) k v) (fun r => zRd n f g k s (z + 1) (p + 1) r) := by
  obtain ⟨H1, H2, H3, H4, H5, H6, H7⟩ := H
  have hpp : 0 ≤ p := by grind
  obtain ⟨a1, a2, a3, a4, a5, a6⟩ := zAdN hs H1 (by grind : p ≤ 1200)
  have hall : ∀ i : Int32, s ≤ i → i < p + 1 → zK n g i = k := by
    intro i i1 i2
    by_cases c : i = p
    · rw [c, zK_at hpp hp]; exact hk
    · exact H4 i i1 (by grind)
  have hz : z + 1 = p + 1 - s := by grind
  have hzr : 0 ≤ z ∧ z ≤ 1200 := by grind
  have hzn := zNx hzr.1 hzr.2
  have hf : 0 ≤ g p.toNatClampNeg → g p.toNatClampNeg ≤ 127 → f p.toNatClampNeg = g p.toNatClampNeg := by
    have := ht p.toNatClampNeg
    grind
  have hkc := zKd_c (g p.toNatClampNeg)
  unfold fn_X10_addByte
  refine zw_if (fun c => ?_) (fun c => ?_)
  · refine zw_some ⟨by grind, by grind, hz, hall, fun _ => ⟨?_, fun _ => ?_⟩, fun q => ?_, fun q => ?_⟩
    · have := h3 c
      grind
    · have := h3 c
      have : p = s := by grind
      rw [this]
    · exact absurd (q.symm.trans c) (by decide)
    · exact absurd (q.symm.trans c) (by decide)
  refine zw_zj (fun _ => k = 1 → 6 < z + 1) (fun s_2 hs2 => ?_) (fun j_2 hj2 => ?_)
  · refine zw_if (fun d => ?_) (fun d => ?_)
    · refine zw_if (fun e => ?_) (fun e => ?_)
      · refine zw_some ⟨by grind, by grind, hz, hall, fun q => absurd q c, fun q => absurd (q.symm.trans d) (by decide), fun _ q => absurd q (by grind)⟩
      · refine zw_some ⟨by grind, by grind, hz, hall, fun q => absurd q c, fun q => absurd (q.symm.trans d) (by decide), fun _ _ => ?_⟩
        have hz7 : z ≤ 7 := by grind
        have h8 := H7 d (by grind)
        have hb := zDV_b (g := g) (s := s.toNatClampNeg) z.toNatClampNeg (fun i hi => zKd2 (by
          rw [H3] at hi
          rw [← d]
          exact zRun_l hs H1 H2 hn H4 i hi))
        have hz7' : z.toNatClampNeg ≤ 7 := zcl z 7 7 (by decide) hz7
        have hp7 := zp10 hz7'
        rw [show (10 : Int) ^ 7 = 10000000 by decide] at hp7
        have hc := hf (by grind) (by grind)
        have hk2 := zKd2 (hk.trans d)
        have q1 := zo_mul (x := v) (y := 10) (z := v * 10) rfl h8 (by decide +kernel : (10 : Int32).toInt = 10) (by omega)
        have q2 := zo_add (x := v * 10) (y := f p.toNatClampNeg) (z := v * 10 + f p.toNatClampNeg) rfl q1 (by rw [hc]) (by omega)
        have q3 := zo_sub (x := v * 10 + f p.toNatClampNeg) (y := 48) (z := v * 10 + f p.toNatClampNeg - 48) rfl q2 (by decide +kernel : (48 : Int32).toInt = 48) (by omega)
        rw [q3, hzn]
        show _ = zDV g s.toNatClampNeg z.toNatClampNeg * 10 + ((g (s.toNatClampNeg + z.toNatClampNeg)).toInt - 48)
        rw [show s.toNatClampNeg + z.toNatClampNeg = p.toNatClampNeg by rw [H3]; exact a1]
        omega
    · refine zw_some ⟨by grind, by grind, hz, hall, fun q => absurd q c, fun q => ?_, fun q => absurd q d⟩
      have := hs2 q
      intro q2
      exact absurd q2 (by grind)
  refine zw_if (fun d => ?_) (fun d => hj2 () (fun q => absurd q d))
  refine zw_if (fun e => hj2 () (fun _ => e)) (fun e => ?_)
  refine zw_some ⟨by grind, by grind, hz, hall, fun q => absurd q c, fun _ _ => ?_, fun q => absurd (q.symm.trans d) (by decide)⟩
  have hz5 : z ≤ 5 := by grind
  have hz5' : z.toNatClampNeg ≤ 5 := zcl z 5 5 (by decide) hz5
  have hc := hf (by grind) (by grind)
  have hzi : z.toInt = (z.toNatClampNeg : Int) := by rw [H3]; exact a2.symm
  have e1 := zo_add (x := z) (y := 1) (z := z + 1) rfl hzi zi_1' (by omega)
  rw [hzn]
  refine zLet z.toNatClampNeg (by omega) (H6 d (by grind)) (fun i hi => zKd1 (by
    rw [H3] at hi
    rw [← d]
    exact zRun_l hs H1 H2 hn H4 i hi)) ?_ ?_ e1
  · rw [show s.toNatClampNeg + z.toNatClampNeg = p.toNatClampNeg by rw [H3]; exact a1]
    exact hc
  · rw [hc]
    exact zKd1 (hk.trans d)
set_option maxHeartbeats 2000000 in
theorem zAdv {n a k0 : Int32} {f g own : Nat → Int32} (hn : n ≤ 1200) (ha : 0 ≤ a ∧ a ≤ n) (ht : zTp f g) (ho : ∀ w : Nat, w < 13 → own w = zOwT w) (hk : (k0 = 1 ∨ k0 = 2) ↔ (zK n g (a - 1) = 1 ∨ zK n g (a - 1) = 2)) : zw (fn_X10_advance n a k0 f own) (fun r => zTok n f g a r.1 r.2.1 r.2.2.1 r.2.2.2.1 r.2.2.2.2) := by
  unfold fn_X10_advance
  simp only [zKd_fn, zb_some]
  refine zw_zj (fun s_1 => ¬ s_1 = 0 ↔ (zK n g (a - 1) = 1 ∨ zK n g (a - 1) = 2)) (fun s_1 hs1 => ?_) (fun j_1 hj1 => ?_)
  · refine zw_zl32 (fun s_2 => a ≤ s_2 ∧ s_2 ≤ n ∧ (∀ i : Int32, a ≤ i → i < s_2 → zK n g i = 5)) (fun s_2 => n - s_2) ⟨by grind, ha.2, fun i h1 h2 => by grind⟩ (by (try dsimp only); grind) (fun s_2 back_2 H2 h2 => ?_)
    obtain ⟨G1, G2, G3⟩ := H2
    have hs0 : 0 ≤ s_2 := by grind
    refine zw_zj (fun _ => ¬ zK n g s_2 = 5) (fun s_3 hs3 => ?_) (fun j_3 hj3 => ?_)
    · have hsk : zSk n g a s_2 := ⟨G1, G3, hs3⟩
      refine zw_zj (fun s_4 => s_4 = zK n g s_2) (fun s_4 hs4 => ?_) (fun j_4 hj4 => ?_)
      · refine zw_zl32 (fun s_5 => zRd n f g s_4 s_2 s_5.1 s_5.2.1 s_5.2.2) (fun s_5 => n - s_5.2.1) (zRd_0 G2) (by (try dsimp only); grind) (fun s_5 back_5 H5 h5 => ?_)
        obtain ⟨z, p, v⟩ := s_5
        dsimp only at H5 h5 ⊢
        have H5' := H5
        obtain ⟨D1, D2, D3, D4, D5, D6, D7⟩ := H5
        refine zw_zj (fun _ => ¬ zK n g p = s_4 ∨ s_4 = 3 ∧ ¬ z = 0 ∨ n ≤ p) (fun s_6 hs6 => ?_) (fun j_6 hj6 => ?_)
        · -- behind the run
          have hfin : ∀ K : Int32, (K = s_4 ∧ ¬ (zJn n g a s_2 ∧ (s_4 = 1 ∨ s_4 = 2)) ∧ (s_4 = 1 → z ≤ 6) ∧ (s_4 = 2 → z ≤ 8) ∨ K = 4 ∧ (s_4 = 1 ∧ (zJn n g a s_2 ∨ 6 < z) ∨ s_4 = 2 ∧ (zJn n g a s_2 ∨ 8 < z))) → ∀ o : Int32, (K = 1 → zOwS v o) → (¬ K = 1 → o = (-1)) → zTok n f g a p K s_2 v o := by
            intro K hK o o1 o2
            have hzz : zSz s_2 p = z.toNatClampNeg := by unfold zSz; rw [D3]
            have hrun : s_4 = 1 ∨ s_4 = 2 → zRun n g s_4 s_2 p := by
              intro q
              refine ⟨D1, D4, ?_⟩
              rcases hs6 with q1 | q1 | q1
              · exact q1
              · grind
              · rw [zK_end q1]
                grind
            refine ⟨hsk, D1, D2, ?_⟩
            by_cases c0 : s_4 = 0
            · have e0 : n ≤ s_2 := by
                by_cases q : n ≤ s_2
                · exact q
                · have := zKd_c (g s_2.toNatClampNeg)
                  rw [← zK_at (n := n) hs0 (by grind), ← hs4] at this
                  grind
              exact Or.inl ⟨by rw [← hs4]; exact c0, by grind, by grind, o2 (by grind)⟩
            by_cases c3 : s_4 = 3
            · have hin := zK_in (n := n) (g := g) (i := s_2) (by rw [← hs4]; exact c0)
              have hz1 : z = 1 := by
                have := (D5 c3).1
                by_cases q : z = 0
                · have qp : p = s_2 := by grind
                  rcases hs6 with q1 | q1 | q1
                  · rw [qp] at q1; exact absurd hs4.symm q1
                  · exact absurd q q1.2
                  · grind
                · grind
              refine Or.inr (Or.inl ⟨by rw [← hs4]; exact c3, by grind, by grind, (D5 c3).2 hz1, o2 (by grind)⟩)
            by_cases c1 : s_4 = 1
            · have hr := hrun (Or.inl c1)
              rw [c1] at hr
              have e1 : zK n g s_2 = 1 := by rw [← hs4]; exact c1
              rcases hK with ⟨q1, q2, q3, q4⟩ | ⟨q1, q2⟩
              · refine Or.inr (Or.inr (Or.inr (Or.inl ⟨e1, hr, fun q => q2 ⟨q, Or.inl c1⟩, by have := q3 c1; grind, by grind, ?_, o1 (by grind)⟩)))
                rw [hzz]
                exact D6 c1 (q3 c1)
              · refine Or.inr (Or.inr (Or.inl ⟨e1, hr, ?_, q1, o2 (by grind)⟩))
                rcases q2 with ⟨_, q2 | q2⟩ | ⟨q2, _⟩
                · exact Or.inl q2
                · exact Or.inr (by grind)
                · exact absurd (c1.symm.trans q2) (by decide)
            by_cases c2 : s_4 = 2
            · have hr := hrun (Or.inr c2)
              rw [c2] at hr
              have e1 : zK n g s_2 = 2 := by rw [← hs4]; exact c2
              rcases hK with ⟨q1, q2, q3, q4⟩ | ⟨q1, q2⟩
              · refine Or.inr (Or.inr (Or.inr (Or.inr (Or.inr ⟨e1, hr, fun q => q2 ⟨q, Or.inr c2⟩, by have := q4 c2; grind, by grind, ?_, o2 (by grind)⟩))))
                rw [hzz]
                exact D7 c2 (q4 c2)
              · refine Or.inr (Or.inr (Or.inr (Or.inr (Or.inl ⟨e1, hr, ?_, q1, o2 (by grind)⟩))))
                rcases q2 with ⟨q2, _⟩ | ⟨_, q2 | q2⟩
                · exact absurd (c2.symm.trans q2) (by decide)
                · exact Or.inl q2
                · exact Or.inr (by grind)
            · exfalso
              have hin := zK_in (n := n) (g := g) (i := s_2) (by rw [← hs4]; exact c0)
              have := zKd_c (g s_2.toNatClampNeg)
              rw [← zK_at (n := n) hin.1 hin.2, ← hs4] at this
              rw [← hs4] at hs3
              grind
          refine zw_zj (fun s_7 => ¬ s_7 = 0 ↔ (zJn n g a s_2 ∧ (s_4 = 1 ∨ s_4 = 2))) (fun s_7 hs7 => ?_) (fun j_7 hj7 => ?_)
          · refine zw_zj (fun s_8 => s_8 = s_4 ∧ ¬ (zJn n g a s_2 ∧ (s_4 = 1 ∨ s_4 = 2)) ∧ (s_4 = 1 → z ≤ 6) ∧ (s_4 = 2 → z ≤ 8) ∨ s_8 = 4 ∧ (s_4 = 1 ∧ (zJn n g a s_2 ∨ 6 < z) ∨ s_4 = 2 ∧ (zJn n g a s_2 ∨ 8 < z))) (fun s_8 hs8 => ?_) (fun j_8 hj8 => ?_)
            · refine zw_if (fun c => ?_) (fun c => ?_)
              · refine zw_zb0 (zFind ho) (fun o ho => ?_)
                exact zw_some (hfin s_8 hs8 o (fun _ => ho) (fun q => absurd c q))
              · exact zw_some (hfin s_8 hs8 (-1) (fun q => absurd q c) (fun _ => rfl))
            · refine zw_zj (fun _ => s_4 = 1 ∧ (zJn n g a s_2 ∨ 6 < z) ∨ s_4 = 2 ∧ (zJn n g a s_2 ∨ 8 < z)) (fun s_14 hs14 => hj8 4 (Or.inr ⟨rfl, hs14⟩)) (fun j_14 hj14 => ?_)
              refine zw_if (fun c => ?_) (fun c => ?_)
              · have hno : ¬ (zJn n g a s_2 ∧ (s_4 = 1 ∨ s_4 = 2)) := fun q => hs7.mpr q c
                refine zw_zj (fun _ => s_4 = 1 → z ≤ 6) (fun s_16 hs16 => ?_) (fun j_16 hj16 => ?_)
                · refine zw_if (fun d => ?_) (fun d => ?_)
                  · refine zw_if (fun e => ?_) (fun e => ?_)
                    · exact hj8 _ (Or.inl ⟨rfl, hno, hs16, fun _ => e⟩)
                    · exact hj14 () (Or.inr ⟨d, Or.inr (by grind)⟩)
                  · exact hj8 _ (Or.inl ⟨rfl, hno, hs16, fun q => absurd q d⟩)
                · refine zw_if (fun d => ?_) (fun d => hj16 () (fun q => absurd q d))
                  refine zw_if (fun e => ?_) (fun e => hj16 () (fun _ => by grind))
                  exact hj14 () (Or.inl ⟨d, Or.inr e⟩)
              · have hy := hs7.mp c
                refine hj14 () ?_
                rcases hy.2 with q | q
                · exact Or.inl ⟨q, Or.inl hy.1⟩
                · exact Or.inr ⟨q, Or.inl hy.1⟩
          · refine zw_zj (fun _ => ¬ (zJn n g a s_2 ∧ (s_4 = 1 ∨ s_4 = 2))) (fun s_21 hs21 => hj7 0 ⟨fun q => absurd rfl q, fun q => absurd q hs21⟩) (fun j_21 hj21 => ?_)
            refine zw_if (fun c => hj21 () (fun q => ?_)) (fun c => ?_)
            · exact hs1.mpr q.1.2 c
            refine zw_if (fun d => ?_) (fun d => hj21 () (fun q => d q.1.1))
            have hjn : zJn n g a s_2 := ⟨d, hs1.mp c⟩
            refine zw_zj (fun _ => s_4 = 1 ∨ s_4 = 2) (fun s_24 hs24 => hj7 1 ⟨fun _ => ⟨hjn, hs24⟩, fun _ => by decide⟩) (fun j_24 hj24 => ?_)
            refine zw_if (fun e => hj24 () (Or.inl e)) (fun e => ?_)
            refine zw_if (fun e2 => hj24 () (Or.inr e2)) (fun e2 => hj21 () (fun q => by grind))
        · -- one byte more
          refine zw_if (fun c => hj6 () (Or.inr (Or.inr c))) (fun c => ?_)
          have hp0 : 0 ≤ p := by grind
          refine zw_zg32 1200 (by decide) (by grind) ?_
          have hkf := zTp_kd ht p.toNatClampNeg
          have hkp := zK_at (n := n) (g := g) hp0 (by grind)
          refine zw_if (fun d => ?_) (fun d => hj6 () (Or.inl (by rw [hkp, ← hkf]; exact d)))
          refine zw_zj (fun _ => s_4 = 3 → z = 0) (fun s_34 hs34 => ?_) (fun j_34 hj34 => ?_)
          · refine zw_zg32 1200 (by decide) (by grind) ?_
            refine zw_zb0 (zRd_s hn hs0 ht (by grind) (by rw [← hkf]; exact d) hs34 H5') (fun o ho => ?_)
            exact h5 (z + 1, p + 1, o) ho (by (try dsimp only); grind) (by (try dsimp only); grind)
          · refine zw_if (fun e => ?_) (fun e => hj34 () (fun q => absurd q e))
            refine zw_if (fun e2 => hj34 () (fun _ => e2)) (fun e2 => hj6 () (Or.inr (Or.inl ⟨e, e2⟩)))
      · refine zw_if (fun c => hj4 0 (zK_end c).symm) (fun c => ?_)
        refine zw_zg32 1200 (by decide) (by grind) ?_
        exact hj4 _ (by rw [zK_at hs0 (by grind)]; exact zTp_kd ht _)
    · refine zw_if (fun c => hj3 () (by rw [zK_end c]; decide)) (fun c => ?_)
      refine zw_zg32 1200 (by decide) (by grind) ?_
      have hkf := zTp_kd ht s_2.toNatClampNeg
      have hkp := zK_at (n := n) (g := g) hs0 (by grind)
      refine zw_if (fun d => ?_) (fun d => hj3 () (by rw [hkp, ← hkf]; exact d))
      refine h2 _ ⟨by grind, by grind, fun i i1 i2 => ?_⟩ (by (try dsimp only); grind) (by (try dsimp only); grind)
      by_cases q : i = s_2
      · rw [q, hkp, ← hkf]; exact d
      · exact G3 i i1 (by grind)
  · refine zw_zj (fun _ => zK n g (a - 1) = 1 ∨ zK n g (a - 1) = 2) (fun s_55 hs55 => hj1 1 ⟨fun _ => hs55, fun _ => by decide⟩) (fun j_55 hj55 => ?_)
    refine zw_if (fun c => hj55 () (hk.mp (Or.inl c))) (fun c => ?_)
    refine zw_if (fun d => hj55 () (hk.mp (Or.inr d))) (fun d => ?_)
    exact hj1 0 ⟨fun q => absurd rfl q, fun q => by have := hk.mpr q; grind⟩
