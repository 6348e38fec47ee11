/-! letters of a NAME; what is made from a NUMBER -/
theorem zq {n d q r : Int} (hd : 0 < d) (h : n = q * d + r) (h0 : 0 ≤ r) (h1 : r < d) : n / d = q := by
  rw [h, Int.add_comm, Int.add_mul_ediv_right _ _ (by omega), Int.ediv_eq_zero_of_lt h0 h1, Int.zero_add]
theorem zshr {c s : Int32} (j : Nat) (D : Int) (hD : ((2 ^ j : Nat) : Int) = D) (hs : (c >>> s).toBitVec = c.toBitVec.sshiftRight j) (h : 0 ≤ c.toInt) : ((c >>> s) &&& 31).toInt = (c.toInt / D) % 32 := by
  rw [← hD]
  have hm : c.toBitVec.msb = false := by
    rw [BitVec.msb_eq_toInt]
    exact decide_eq_false (by show ¬ c.toInt < 0; omega)
  have e : ((c >>> s) &&& 31).toBitVec.toNat = (c.toBitVec.toNat / 2 ^ j) % 32 := by
    rw [Int32.toBitVec_and, BitVec.toNat_and, hs, BitVec.sshiftRight_eq_of_msb_false hm, BitVec.toNat_ushiftRight, Nat.shiftRight_eq_div_pow, show (31 : Int32).toBitVec.toNat = 2 ^ 5 - 1 by decide +kernel]
    exact Nat.and_two_pow_sub_one_eq_mod _ 5
  have hl := Nat.mod_lt (c.toBitVec.toNat / 2 ^ j) (show 0 < 32 by decide)
  rw [ztoI e (by omega), ← zposN h, Int.natCast_emod, Int.natCast_ediv]
  rfl
theorem zNm_let {c m k : Int32} (h : zNm c m) (h0 : 0 ≤ k) (h1 : k < 6) : (c >>> ((5 * (5 - k)) &&& 31)) &&& 31 = (m >>> ((5 * k) &&& 31)) &&& 31 := by
  obtain ⟨l, hl, hc, hm⟩ := h
  have b0 := hl 0
  have b1 := hl 1
  have b2 := hl 2
  have b3 := hl 3
  have b4 := hl 4
  have b5 := hl 5
  unfold zCV at hc
  unfold zMV at hm
  have hc0 : 0 ≤ c.toInt := by omega
  have hm0 : 0 ≤ m.toInt := by omega
  have hk : k = 0 ∨ k = 1 ∨ k = 2 ∨ k = 3 ∨ k = 4 ∨ k = 5 := by grind
  apply Int32.toInt_inj.mp
  rcases hk with rfl | rfl | rfl | rfl | rfl | rfl
  · rw [show (5 * (5 - 0) &&& 31 : Int32) = 25 by decide +kernel, show (5 * 0 &&& 31 : Int32) = 0 by decide +kernel, zshr 25 33554432 (by decide) rfl hc0, zshr 0 1 (by decide) rfl hm0, zq (q := l 0 * 1) (r := l 1 * 1048576 + l 2 * 32768 + l 3 * 1024 + l 4 * 32 + l 5 * 1) (by decide) (by rw [hc]; omega) (by omega) (by omega), zq (q := l 0 * 1 + l 1 * 32 + l 2 * 1024 + l 3 * 32768 + l 4 * 1048576 + l 5 * 33554432) (r := 0) (by decide) (by rw [hm]; omega) (by omega) (by omega)]
    omega
  · rw [show (5 * (5 - 1) &&& 31 : Int32) = 20 by decide +kernel, show (5 * 1 &&& 31 : Int32) = 5 by decide +kernel, zshr 20 1048576 (by decide) rfl hc0, zshr 5 32 (by decide) rfl hm0, zq (q := l 0 * 32 + l 1 * 1) (r := l 2 * 32768 + l 3 * 1024 + l 4 * 32 + l 5 * 1) (by decide) (by rw [hc]; omega) (by omega) (by omega), zq (q := l 1 * 1 + l 2 * 32 + l 3 * 1024 + l 4 * 32768 + l 5 * 1048576) (r := l 0 * 1) (by decide) (by rw [hm]; omega) (by omega) (by omega)]
    omega
  · rw [show (5 * (5 - 2) &&& 31 : Int32) = 15 by decide +kernel, show (5 * 2 &&& 31 : Int32) = 10 by decide +kernel, zshr 15 32768 (by decide) rfl hc0, zshr 10 1024 (by decide) rfl hm0, zq (q := l 0 * 1024 + l 1 * 32 + l 2 * 1) (r := l 3 * 1024 + l 4 * 32 + l 5 * 1) (by decide) (by rw [hc]; omega) (by omega) (by omega), zq (q := l 2 * 1 + l 3 * 32 + l 4 * 1024 + l 5 * 32768) (r := l 0 * 1 + l 1 * 32) (by decide) (by rw [hm]; omega) (by omega) (by omega)]
    omega
  · rw [show (5 * (5 - 3) &&& 31 : Int32) = 10 by decide +kernel, show (5 * 3 &&& 31 : Int32) = 15 by decide +kernel, zshr 10 1024 (by decide) rfl hc0, zshr 15 32768 (by decide) rfl hm0, zq (q := l 0 * 32768 + l 1 * 1024 + l 2 * 32 + l 3 * 1) (r := l 4 * 32 + l 5 * 1) (by decide) (by rw [hc]; omega) (by omega) (by omega), zq (q := l 3 * 1 + l 4 * 32 + l 5 * 1024) (r := l 0 * 1 + l 1 * 32 + l 2 * 1024) (by decide) (by rw [hm]; omega) (by omega) (by omega)]
    omega
  · rw [show (5 * (5 - 4) &&& 31 : Int32) = 5 by decide +kernel, show (5 * 4 &&& 31 : Int32) = 20 by decide +kernel, zshr 5 32 (by decide) rfl hc0, zshr 20 1048576 (by decide) rfl hm0, zq (q := l 0 * 1048576 + l 1 * 32768 + l 2 * 1024 + l 3 * 32 + l 4 * 1) (r := l 5 * 1) (by decide) (by rw [hc]; omega) (by omega) (by omega), zq (q := l 4 * 1 + l 5 * 32) (r := l 0 * 1 + l 1 * 32 + l 2 * 1024 + l 3 * 32768) (by decide) (by rw [hm]; omega) (by omega) (by omega)]
    omega
  · rw [show (5 * (5 - 5) &&& 31 : Int32) = 0 by decide +kernel, show (5 * 5 &&& 31 : Int32) = 25 by decide +kernel, zshr 0 1 (by decide) rfl hc0, zshr 25 33554432 (by decide) rfl hm0, zq (q := l 0 * 33554432 + l 1 * 1048576 + l 2 * 32768 + l 3 * 1024 + l 4 * 32 + l 5 * 1) (r := 0) (by decide) (by rw [hc]; omega) (by omega) (by omega), zq (q := l 5 * 1) (r := l 0 * 1 + l 1 * 32 + l 2 * 1024 + l 3 * 32768 + l 4 * 1048576) (by decide) (by rw [hm]; omega) (by omega) (by omega)]
    omega
theorem zeq_letter {cF cc cN inp : Int32} {nF nN stp mst prc al made amt op fx jn lets mF mN mCst mNF mNN mS mM mC mW mO m1 m2 mX mG : Nat → Int32} {mA mB : Nat → Int64} {p1 p2 p3 x y : Int32} (T : zTN cF cc cN inp nF nN stp mst prc al made amt op fx jn lets mF mN mNF mNN mS mM mC mW mCst mO m1 m2 mX mG mA mB) (h1 : fn_X11_letter p1 p2 p3 cF cN nN nF = some x) (h2 : fn_X12_letter p1 p2 p3 mN mF mNN mNF = some y) : x = y := by
  obtain ⟨⟨f1, f2, f3⟩, ⟨n1, n2, n3⟩, hC, hz, hp, hI, hf, hn, hg⟩ := T
  unfold fn_X11_letter at h1
  unfold fn_X12_letter at h2
  have hin : p3.toInt64 ≤ (5 : Int64) ↔ p3 ≤ 5 := by rw [show (5 : Int64) = (5 : Int32).toInt64 by decide +kernel, z64_le]
  simp only [zj, zHasN, zHasF, zb_some, fn_X11_letterOf] at h1
  simp only [zj, zIsNum (show 0 ≤ mN 0 by rw [n1]; exact n2), zIsFmt (show 0 ≤ mF 0 by rw [f1]; exact f2), zb_some, zIsIn, z64_ge0, hin, n1, f1] at h2
  by_cases c : p2 = 0
  · simp only [if_pos c] at h1 h2
    by_cases d : 0 ≤ p1 ∧ p1 < cN
    · rw [if_neg (by rw [zif1]; exact fun q => q d)] at h1 h2
      by_cases e : 0 ≤ p3 ∧ p3 ≤ 5
      · rw [if_neg (by rw [zif1]; exact fun q => q e)] at h2
        rw [if_neg (by grind), if_pos (by grind)] at h1
        obtain ⟨-, h1⟩ := zg_s h1
        obtain ⟨-, h2⟩ := zg_s h2
        rw [← Option.some.inj h1, ← Option.some.inj h2]
        exact zNm_let (hn p1 d.1 d.2).1 e.1 (by grind)
      · rw [if_pos (by rw [zif1]; exact e)] at h2
        have h1' : x = (-1) := by
          by_cases w : p3 < 0
          · rw [if_pos w] at h1; exact (Option.some.inj h1).symm
          · rw [if_neg w, if_neg (by grind)] at h1; exact (Option.some.inj h1).symm
        rw [h1', ← Option.some.inj h2]
    · rw [if_pos (by rw [zif1]; exact d)] at h1 h2
      rw [← Option.some.inj h1, ← Option.some.inj h2]
  · simp only [if_neg c] at h1 h2
    by_cases d : 0 ≤ p1 ∧ p1 < cF
    · rw [if_neg (by rw [zif1]; exact fun q => q d)] at h1 h2
      by_cases e : 0 ≤ p3 ∧ p3 ≤ 5
      · rw [if_neg (by rw [zif1]; exact fun q => q e)] at h2
        rw [if_neg (by grind), if_pos (by grind)] at h1
        obtain ⟨-, h1⟩ := zg_s h1
        obtain ⟨-, h2⟩ := zg_s h2
        rw [← Option.some.inj h1, ← Option.some.inj h2]
        exact zNm_let (hf p1 d.1 d.2).1 e.1 (by grind)
      · rw [if_pos (by rw [zif1]; exact e)] at h2
        have h1' : x = (-1) := by
          by_cases w : p3 < 0
          · rw [if_pos w] at h1; exact (Option.some.inj h1).symm
          · rw [if_neg w, if_neg (by grind)] at h1; exact (Option.some.inj h1).symm
        rw [h1', ← Option.some.inj h2]
    · rw [if_pos (by rw [zif1]; exact d)] at h1 h2
      rw [← Option.some.inj h1, ← Option.some.inj h2]
/-! sets of NUMBERS as bits -/
noncomputable def zbt (x : Int32) (k : Nat) : Bool := x.toBitVec.getLsbD k
theorem zp14 {p : Int32} (h : 0 ≤ p ∧ p < 14) : ((p &&& 31).toBitVec.smod 32).toNat = p.toNatClampNeg ∧ (1 <<< (p &&& 31) : Int32).toBitVec = BitVec.twoPow 32 p.toNatClampNeg ∧ p.toNatClampNeg < 32 := by
  have hk : p = 0 ∨ p = 1 ∨ p = 2 ∨ p = 3 ∨ p = 4 ∨ p = 5 ∨ p = 6 ∨ p = 7 ∨ p = 8 ∨ p = 9 ∨ p = 10 ∨ p = 11 ∨ p = 12 ∨ p = 13 := by grind
  rcases hk with rfl | rfl | rfl | rfl | rfl | rfl | rfl | rfl | rfl | rfl | rfl | rfl | rfl | rfl <;> decide +kernel
theorem zbt_sh (x p : Int32) : (x >>> (p &&& 31)).toBitVec = x.toBitVec.sshiftRight ((p &&& 31).toBitVec.smod 32).toNat := rfl
theorem zbt_and {x p : Int32} (h : 0 ≤ p ∧ p < 14) : ((x >>> (p &&& 31)) &&& 1 = 1) ↔ zbt x p.toNatClampNeg = true := by
  obtain ⟨e1, e2, e3⟩ := zp14 h
  have e4 : ((x >>> (p &&& 31)) &&& 1).toBitVec = x.toBitVec.sshiftRight p.toNatClampNeg &&& 1#32 := by
    rw [Int32.toBitVec_and, zbt_sh, e1]
    rfl
  have e5 : ∀ i : Nat, (x.toBitVec.sshiftRight p.toNatClampNeg &&& 1#32).getLsbD i = (decide (i = 0) && zbt x p.toNatClampNeg) := by
    intro i
    rw [BitVec.getLsbD_and, BitVec.getLsbD_sshiftRight, BitVec.getLsbD_one]
    by_cases q : i = 0
    · subst q
      simp [zbt, e3]
    · simp [q]
  constructor
  · intro q
    have q1 : (x.toBitVec.sshiftRight p.toNatClampNeg &&& 1#32) = 1#32 := by rw [← e4, q]; rfl
    have q2 := e5 0
    rw [q1] at q2
    simpa using q2.symm
  · intro q
    apply Int32.toBitVec_inj.mp
    rw [e4]
    show _ = 1#32
    apply BitVec.eq_of_getLsbD_eq
    intro i hi
    rw [e5 i, q, BitVec.getLsbD_one]
    simp
theorem zbt_or {x p : Int32} (h : 0 ≤ p ∧ p < 14) (k : Nat) : zbt (x ||| (1 <<< (p &&& 31))) k = (zbt x k || decide (p.toNatClampNeg = k)) := by
  obtain ⟨e1, e2, e3⟩ := zp14 h
  show (x ||| (1 <<< (p &&& 31))).toBitVec.getLsbD k = _
  rw [Int32.toBitVec_or, e2, BitVec.getLsbD_or, BitVec.getLsbD_twoPow]
  simp [zbt, e3]
theorem zbt_fin {x p : Int32} (h : 0 ≤ p ∧ p < 14) (h0 : zbt x p.toNatClampNeg = false) : (x ||| (1 <<< (p &&& 31))) &&& ((1 <<< (p &&& 31)) ^^^ (-1)) = x := by
  obtain ⟨e1, e2, e3⟩ := zp14 h
  apply Int32.toBitVec_inj.mp
  rw [Int32.toBitVec_and, Int32.toBitVec_or, Int32.toBitVec_xor, e2, show (-1 : Int32).toBitVec = BitVec.allOnes 32 by decide +kernel]
  apply BitVec.eq_of_getLsbD_eq
  intro i hi
  rw [BitVec.getLsbD_and, BitVec.getLsbD_or, BitVec.getLsbD_xor, BitVec.getLsbD_twoPow, BitVec.getLsbD_allOnes]
  by_cases q : p.toNatClampNeg = i
  · subst q
    have h0 : x.toBitVec.getLsbD p.toNatClampNeg = false := h0
    rw [h0]
    simp [hi]
  · simp [q, hi]
theorem zAmong {p b a : Int32} (ha : (-1) ≤ a ∧ a < 14) : fn_X4_isAmong p b a = some (if a = p ∨ 0 ≤ a ∧ zbt b a.toNatClampNeg = true then 1 else 0) := by
  unfold fn_X4_isAmong
  by_cases c : a = p
  · rw [if_pos c, if_pos (Or.inl c)]
  · rw [if_neg c]
    by_cases d : a < 0
    · rw [if_pos d, if_neg (by rintro (q | ⟨q, _⟩); exact c q; grind)]
    · rw [if_neg d]
      have hb := zbt_and (x := b) (p := a) ⟨by grind, ha.2⟩
      by_cases e : ((b >>> (a &&& 31)) &&& 1) = 1
      · rw [if_pos e, if_pos (Or.inr ⟨by grind, hb.mp e⟩)]
      · rw [if_neg e, if_neg (by rintro (q | ⟨_, q⟩); exact c q; exact e (hb.mpr q))]
theorem zeq_uses {cF cc cN inp : Int32} {nF nN stp mst prc al made amt op fx jn lets mF mN mCst mNF mNN mS mM mC mW mO m1 m2 mX mG : Nat → Int32} {mA mB : Nat → Int64} {p1 x y : Int32} (T : zTN cF cc cN inp nF nN stp mst prc al made amt op fx jn lets mF mN mNF mNN mS mM mC mW mCst mO m1 m2 mX mG mA mB) (h1 : fn_X11_uses p1 cN made = some x) (h2 : fn_X12_uses p1 mN m1 m2 = some y) : x = y := by
  obtain ⟨hF, ⟨n1, n2, n3⟩, hC, hz, hp, hI, hf, hn, hg⟩ := T
  unfold fn_X11_uses at h1
  unfold fn_X12_uses at h2
  rw [zHasN, zb_some] at h1
  rw [zIsNum (by rw [n1]; exact n2), zb_some, n1] at h2
  by_cases c : 0 ≤ p1 ∧ p1 < cN
  · rw [if_neg (by rw [zif1]; exact fun q => q c)] at h1 h2
    have hp14 : 0 ≤ p1 ∧ p1 < 14 := ⟨c.1, by grind⟩
    obtain ⟨w, hw, h1⟩ := zb_s h1
    rw [← Option.some.inj h1]
    unfold fn_X4_madeFrom at hw
    rw [zn01.1, n1] at h2
    refine zl_ip2 (P := fun w y => w = y) (fun s t => t.2 = s.2 ∧ p1 < s.2 ∧ s.2 ≤ 14 ∧ t.1 = s.1 ||| (1 <<< (p1 &&& 31)) ∧ zbt s.1 p1.toNatClampNeg = false) ?_ _ _ _ _ _ _ ?_ hw h2
    rotate_left
    · exact ⟨rfl, (show p1 < p1 + 1 by grind), (show p1 + 1 ≤ 14 by grind), (show (1 <<< (p1 &&& 31) : Int32) = (0 : Int32) ||| (1 <<< (p1 &&& 31)) from Int32.zero_or.symm), (show zbt 0 p1.toNatClampNeg = false by unfold zbt; simp)⟩
    intro s t k1 k2 o1 o2 ⟨R1, R2, R3, R4, R5⟩ hb ho1 ho2
    obtain ⟨bits, k⟩ := s
    obtain ⟨set, k'⟩ := t
    dsimp only at R1 R2 R3 R4 R5 ho1 ho2
    subst R1
    by_cases d : cN ≤ k'
    · rw [if_pos d] at ho1 ho2
      rw [← Option.some.inj ho1, ← Option.some.inj ho2, R4]
      exact (zbt_fin hp14 R5).symm
    · rw [if_neg d] at ho1 ho2
      have hk : 0 ≤ k' ∧ k' < cN := ⟨by grind, by grind⟩
      have hk14 : 0 ≤ k' ∧ k' < 14 := ⟨hk.1, by grind⟩
      obtain ⟨q1, q2, q3, q4, q5, q6, q7, q8, q9, q10, q11, q12, q13, q14⟩ := hn k' hk.1 hk.2
      obtain ⟨-, ho2⟩ := zg_s ho2
      simp only [zj] at ho2
      rw [zMade0 n3 hk, zb_some, zAmong ⟨q12.1, by grind⟩, zb_some, zMade1 n3 hk, zb_some, zAmong ⟨q13.1, by grind⟩, zb_some] at ho1
      have bit : ∀ a : Int32, (-1) ≤ a → a < k' → ¬ a = (-1) → (((set >>> (a &&& 31)) &&& 1 = 1) ↔ (a = p1 ∨ 0 ≤ a ∧ zbt bits a.toNatClampNeg = true)) := by
        intro a a1 a2 a3
        have a4 : 0 ≤ a ∧ a < 14 := ⟨by grind, by grind⟩
        rw [zbt_and a4, R4, zbt_or hp14]
        constructor
        · intro q
          simp only [Bool.or_eq_true, decide_eq_true_eq] at q
          rcases q with q | q
          · exact Or.inr ⟨a4.1, q⟩
          · exact Or.inl (zinj _ _ hp14.1 a4.1 q).symm
        · intro q
          simp only [Bool.or_eq_true, decide_eq_true_eq]
          rcases q with q | ⟨_, q⟩
          · exact Or.inr (by rw [q])
          · exact Or.inl q
      have yes : k1 (bits ||| (1 <<< (k' &&& 31)), k' + 1) = some o1 → k2 (set ||| (1 <<< (k' &&& 31)), k' + 1) = some o2 → o1 = o2 := by
        intro w1 w2
        refine hb _ _ _ _ ?_ w1 w2
        refine ⟨rfl, (show p1 < k' + 1 by grind), (show k' + 1 ≤ 14 by grind), ?_, ?_⟩
        · show set ||| (1 <<< (k' &&& 31)) = bits ||| (1 <<< (k' &&& 31)) ||| (1 <<< (p1 &&& 31))
          rw [R4, Int32.or_assoc, Int32.or_assoc, Int32.or_comm (1 <<< (p1 &&& 31))]
        · show zbt (bits ||| (1 <<< (k' &&& 31))) p1.toNatClampNeg = false
          rw [zbt_or hk14, R5]
          have : ¬ k'.toNatClampNeg = p1.toNatClampNeg := fun q => by have := zinj _ _ hk.1 c.1 q; grind
          simp [this]
      have no : k1 (bits, k' + 1) = some o1 → k2 (set ||| 0, k' + 1) = some o2 → o1 = o2 := by
        intro w1 w2
        rw [Int32.or_zero] at w2
        refine hb _ _ _ _ ?_ w1 w2
        exact ⟨rfl, (show p1 < k' + 1 by grind), (show k' + 1 ≤ 14 by grind), R4, R5⟩
      rw [← q5, ← q6] at ho2
      have h10 : ¬ (1 : Int32) = 0 := by decide
      have hneg : (-1 : Int32) = p1 → False := fun q => by grind
      -- the second WHAT, once the first is none
      have snd : (if (if made (2 * k' + 1).toNatClampNeg = p1 ∨ 0 ≤ made (2 * k' + 1).toNatClampNeg ∧ zbt bits (made (2 * k' + 1).toNatClampNeg).toNatClampNeg = true then (1 : Int32) else 0) = 0 then k1 (bits, k' + 1) else k1 (bits ||| (1 <<< (k' &&& 31)), k' + 1)) = some o1 → (zg k' 28 (if made (2 * k' + 1).toNatClampNeg = (-1) then (if (0 : Int32) = 0 then k2 (set ||| 0, k' + 1) else k2 (set ||| (1 <<< (k' &&& 31)), k' + 1)) else (if ((set >>> (made (2 * k' + 1).toNatClampNeg &&& 31)) &&& 1) = 1 then (if (1 : Int32) = 0 then k2 (set ||| 0, k' + 1) else k2 (set ||| (1 <<< (k' &&& 31)), k' + 1)) else (if (0 : Int32) = 0 then k2 (set ||| 0, k' + 1) else k2 (set ||| (1 <<< (k' &&& 31)), k' + 1))))) = some o2 → o1 = o2 := by
        intro w1 w2
        obtain ⟨-, w2⟩ := zg_s w2
        rw [if_neg h10, if_pos rfl] at w2
        by_cases e : made (2 * k' + 1).toNatClampNeg = (-1)
        · rw [if_pos e] at w2
          rw [if_pos (by rw [zif1, e]; rintro (q | ⟨q, _⟩); exact hneg q; exact absurd q (by decide))] at w1
          exact no w1 w2
        · rw [if_neg e] at w2
          have hbit := bit _ q13.1 q13.2 e
          by_cases u : made (2 * k' + 1).toNatClampNeg = p1 ∨ 0 ≤ made (2 * k' + 1).toNatClampNeg ∧ zbt bits (made (2 * k' + 1).toNatClampNeg).toNatClampNeg = true
          · rw [if_pos (hbit.mpr u)] at w2
            rw [if_neg (by rw [zif1]; exact fun q => q u)] at w1
            exact yes w1 w2
          · rw [if_neg (fun q => u (hbit.mp q))] at w2
            rw [if_pos (by rw [zif1]; exact u)] at w1
            exact no w1 w2
      by_cases e : made (2 * k' + 0).toNatClampNeg = (-1)
      · rw [if_pos e] at ho2
        rw [if_pos (by rw [zif1, e]; rintro (q | ⟨q, _⟩); exact hneg q; exact absurd q (by decide))] at ho1
        exact snd ho1 ho2
      · rw [if_neg e] at ho2
        have hbit := bit _ q12.1 q12.2 e
        by_cases u : made (2 * k' + 0).toNatClampNeg = p1 ∨ 0 ≤ made (2 * k' + 0).toNatClampNeg ∧ zbt bits (made (2 * k' + 0).toNatClampNeg).toNatClampNeg = true
        · rw [if_pos (hbit.mpr u), if_neg h10] at ho2
          rw [if_neg (by rw [zif1]; exact fun q => q u)] at ho1
          exact yes ho1 ho2
        · rw [if_neg (fun q => u (hbit.mp q))] at ho2
          rw [if_pos (by rw [zif1]; exact u)] at ho1
          exact snd ho1 ho2
  · rw [if_pos (by rw [zif1]; exact c)] at h1 h2
    rw [← Option.some.inj h1, ← Option.some.inj h2]
