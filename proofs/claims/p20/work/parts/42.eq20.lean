/-! numbers of 64 bits: least, greatest, amount, products by 1000 -/
noncomputable def zLs (a b : Int64) : Int64 := if b < a then b else a
noncomputable def zMx (a b : Int64) : Int64 := if b < a then a else b
noncomputable def zAb (a : Int64) : Int64 := if 0 < a then a else -a
theorem zLes (a b : Int64) : fn_X12_lesser a b = some (zLs a b) := by
  unfold fn_X12_lesser zLs
  by_cases c : b ≤ a
  · rw [if_pos ((lg_cmp_ge a b).mpr c)]
    by_cases d : b < a
    · rw [if_pos d]
    · rw [if_neg d, show b = a by grind]
  · rw [if_neg (fun q => c ((lg_cmp_ge a b).mp q)), if_neg (by grind)]
theorem zGre (a b : Int64) : fn_X12_greater a b = some (zMx a b) := by
  unfold fn_X12_greater zMx
  by_cases c : a ≤ b
  · rw [if_pos ((lg_cmp_le a b).mpr c), if_neg (by grind)]
  · rw [if_neg (fun q => c ((lg_cmp_le a b).mp q)), if_pos (by grind)]
theorem zAmo (a : Int64) : fn_X12_amount a = some (zAb a) := by
  unfold fn_X12_amount zAb
  by_cases c : 0 ≤ a
  · rw [if_pos ((lg_cmp_ge a 0).mpr c)]
    by_cases d : 0 < a
    · rw [if_pos d]
    · rw [if_neg d, show a = 0 by grind]
      rfl
  · rw [if_neg (fun q => c ((lg_cmp_ge a 0).mp q)), if_neg (by grind)]
theorem zMx_comm (a b : Int64) : zMx a b = zMx b a := by
  unfold zMx
  grind
noncomputable def zFd (x y : Int64) : Int64 := if x - x / y * y = 0 then x / y else if 0 ≤ x then x / y else x / y - 1
theorem zxor {x y : Int64} (hy : 0 ≤ y) : 0 ≤ x ^^^ y ↔ 0 ≤ x := by
  have z0 : (0 : Int64).toInt = 0 := by decide +kernel
  have key : ∀ v : Int64, 0 ≤ v ↔ v.toBitVec.msb = false := by
    intro v
    rw [Int64.le_iff_toInt_le, z0, BitVec.msb_eq_toInt]
    show 0 ≤ v.toBitVec.toInt ↔ _
    constructor
    · intro q; exact decide_eq_false (by omega)
    · intro q; have := of_decide_eq_false q; omega
  rw [key, key x, Int64.toBitVec_xor, BitVec.msb_xor, (key y).mp hy]
  simp
theorem zFdM {x y : Int64} (hy : ¬ y = 0) : fn_X12_floor x y = some (zFd x y) := by
  unfold fn_X12_floor zd zFd
  rw [if_neg hy, if_neg hy]
  by_cases c : x - x / y * y = 0
  · rw [if_pos ((lg_cmp_eq _ _).mpr c), if_pos c]
  · rw [if_neg (fun q => c ((lg_cmp_eq _ _).mp q)), if_neg c]
    by_cases d : 0 ≤ x
    · rw [if_pos ((lg_cmp_ge _ _).mpr d), if_pos d]
    · rw [if_neg (fun q => d ((lg_cmp_ge _ _).mp q)), if_neg d]
theorem zFdJ {x y : Int64} (hy : 1 ≤ y) : fn_J9_floorDiv_f86c9 x y = some (zFd x y) := by
  unfold fn_J9_floorDiv_f86c9 zd zFd
  rw [if_neg (show ¬ y = 0 by grind)]
  have hx := zxor (x := x) (y := y) (by grind)
  have e : (x / y * y = x) ↔ (x - x / y * y = 0) := by
    generalize x / y * y = z
    constructor
    · intro q; rw [q]; exact Int64.sub_self x
    · intro q; grind
  by_cases d : 0 ≤ x
  · rw [if_pos ((lg_cmp_ge _ _).mpr (hx.mpr d)), if_pos d]
    by_cases c : x - x / y * y = 0
    · rw [if_pos c]
    · rw [if_neg c]
  · rw [if_neg (fun q => d (hx.mp ((lg_cmp_ge _ _).mp q))), if_neg d]
    by_cases c : x - x / y * y = 0
    · rw [if_pos ((lg_cmp_eq _ _).mpr (e.mpr c)), if_pos c]
    · rw [if_neg (fun q => c (e.mp ((lg_cmp_eq _ _).mp q))), if_neg c]
noncomputable def zPr (a b s : Int64) : Int64 := zFd (2 * a * b + 1000 * s) (2000 * s) * s
noncomputable def zRd' (a s : Int64) : Int64 := zFd (2 * a + s) (2 * s) * s
theorem zst {s : Int64} (h : 1 ≤ s ∧ s ≤ 1000000) : 1 ≤ 1000 * s ∧ 1 ≤ 2000 * s ∧ 1 ≤ 2 * s := by
  refine ⟨?_, ?_, ?_⟩ <;> grind
theorem zPrM {a b s : Int64} (h : 1 ≤ s ∧ s ≤ 1000000) : fn_X12_roundedProduct a b s = some (zPr a b s) := by
  unfold fn_X12_roundedProduct
  have := (zst h).2.1
  rw [zFdM (show ¬ 2000 * s = 0 by grind), zb_some]
  rfl
theorem zNeJ {a d s : Int64} (h1 : 1 ≤ d * s) (h2 : 1 ≤ 2 * (d * s)) : fn_X11_nearest a d s = some (zFd (2 * a + d * s) (2 * (d * s)) * s) := by
  unfold fn_X11_nearest
  rw [if_pos ((lg_cmp_ge _ _).mpr h1), zFdJ h2, zb_some]
theorem zPrJ {a b s : Int64} (h : 1 ≤ s ∧ s ≤ 1000000) : fn_X11_nearest (a * b) 1000 s = some (zPr a b s) := by
  have e : 2 * (1000 * s) = 2000 * s := by rw [← Int64.mul_assoc]; rfl
  obtain ⟨h1, h2, -⟩ := zst h
  rw [zNeJ h1 (by rw [e]; exact h2), e, ← Int64.mul_assoc]
  rfl
noncomputable def zAp (p : Int32) (a b s : Int64) : Int64 := if p = 1 then a + b else if p = 2 then a - b else if p = 3 then zPr a b s else if p = 4 then zLs a b else zMx a b
theorem zApJ {p : Int32} {a b s : Int64} (hp : 1 ≤ p ∧ p ≤ 5) (h : 1 ≤ s ∧ s ≤ 1000000) : fn_X11_apply p a b s = some (zAp p a b s) := by
  unfold fn_X11_apply zAp
  rw [zPrJ h, zb_some]
  by_cases c1 : p = 1
  · rw [if_pos c1, if_pos c1]
  · rw [if_neg c1, if_neg c1]
    by_cases c2 : p = 2
    · rw [if_pos c2, if_pos c2]
    · rw [if_neg c2, if_neg c2]
      by_cases c3 : p = 3
      · rw [if_pos c3, if_pos c3]
      · rw [if_neg c3, if_neg c3]
        by_cases c4 : p = 4
        · rw [if_pos c4, if_pos c4]; rfl
        · rw [if_neg c4, if_neg c4, if_pos (by grind)]; rfl
theorem zApM {p : Int32} {a b s : Int64} (h : 1 ≤ s ∧ s ≤ 1000000) : fn_X12_two p a b s = some (zAp p a b s) := by
  unfold fn_X12_two zAp
  rw [zPrM h, zLes, zGre, zb_some, zb_some, zb_some]
  by_cases c1 : p = 1
  · rw [if_pos c1, if_pos c1]
  · rw [if_neg c1, if_neg c1]
    by_cases c2 : p = 2
    · rw [if_pos c2, if_pos c2]
    · rw [if_neg c2, if_neg c2]
      by_cases c3 : p = 3
      · rw [if_pos c3, if_pos c3]
      · rw [if_neg c3, if_neg c3]
        by_cases c4 : p = 4
        · rw [if_pos c4, if_pos c4]
        · rw [if_neg c4, if_neg c4]
theorem zone64 : (1 : Int64) ≤ 1 ∧ (1 : Int64) ≤ 1000000 := by decide
/-! both ends of a NUMBER, by those of its WHATS -/
noncomputable def zVal (m a : Int32) (row : Nat → Int64) : Int64 := if m = (-1) then a.toInt64 else row m.toNatClampNeg
noncomputable def zLoV (p : Int32) (a b c d : Int64) : Int64 := if p = 2 then a - d else if p = 3 then zLs (zLs (zPr a c 1) (zPr a d 1)) (zLs (zPr b c 1) (zPr b d 1)) else zAp p a c 1
noncomputable def zHiV (p : Int32) (a b c d : Int64) : Int64 := if p = 2 then b - c else if p = 3 then zMx (zMx (zPr a c 1) (zPr a d 1)) (zMx (zPr b c 1) (zPr b d 1)) else zAp p b d 1
noncomputable def zLw (i : Int32) (op made amt : Nat → Int32) (lo hi : Nat → Int64) : Int64 := if op i.toNatClampNeg = 0 then (amt (2 * i + 0).toNatClampNeg).toInt64 else zLoV (op i.toNatClampNeg) (zVal (made (2 * i + 0).toNatClampNeg) (amt (2 * i + 0).toNatClampNeg) lo) (zVal (made (2 * i + 0).toNatClampNeg) (amt (2 * i + 0).toNatClampNeg) hi) (zVal (made (2 * i + 1).toNatClampNeg) (amt (2 * i + 1).toNatClampNeg) lo) (zVal (made (2 * i + 1).toNatClampNeg) (amt (2 * i + 1).toNatClampNeg) hi)
noncomputable def zHg (i : Int32) (op made amt : Nat → Int32) (lo hi : Nat → Int64) : Int64 := if op i.toNatClampNeg = 0 then (amt (2 * i + 1).toNatClampNeg).toInt64 else zHiV (op i.toNatClampNeg) (zVal (made (2 * i + 0).toNatClampNeg) (amt (2 * i + 0).toNatClampNeg) lo) (zVal (made (2 * i + 0).toNatClampNeg) (amt (2 * i + 0).toNatClampNeg) hi) (zVal (made (2 * i + 1).toNatClampNeg) (amt (2 * i + 1).toNatClampNeg) lo) (zVal (made (2 * i + 1).toNatClampNeg) (amt (2 * i + 1).toNatClampNeg) hi)
/-- what the class needs to know of one NUMBER -/
noncomputable def zOk (i : Int32) (op made : Nat → Int32) : Prop := (0 ≤ op i.toNatClampNeg ∧ op i.toNatClampNeg ≤ 5) ∧ ((-1) ≤ made (2 * i + 0).toNatClampNeg ∧ made (2 * i + 0).toNatClampNeg < i) ∧ ((-1) ≤ made (2 * i + 1).toNatClampNeg ∧ made (2 * i + 1).toNatClampNeg < i) ∧ (op i.toNatClampNeg = 0 → made (2 * i + 0).toNatClampNeg = (-1) ∧ made (2 * i + 1).toNatClampNeg = (-1))
theorem zOk_of {i cF : Int32} {nN op fx al made amt lets mNN mO m1 m2 mX mW : Nat → Int32} {mA mB : Nat → Int64} (h : zN01 i cF nN op fx al made amt lets mNN mO m1 m2 mX mW mA mB) : zOk i op made := by
  obtain ⟨q1, q2, q3, q4, q5, q6, q7, q8, q9, q10, q11, q12, q13, q14, q15, q16, q17⟩ := h
  exact ⟨q9, q12, q13, fun w => ⟨(q16 w).1, (q16 w).2.1⟩⟩
theorem zLowJ0 {i cN : Int32} {made amt : Nat → Int32} {lo : Nat → Int64} (hN : cN ≤ 14) (hi : 0 ≤ i ∧ i < cN) (hm : (-1) ≤ made (2 * i + 0).toNatClampNeg ∧ made (2 * i + 0).toNatClampNeg < i) : fn_X6_lowOf i 0 cN made amt lo = some (zVal (made (2 * i + 0).toNatClampNeg) (amt (2 * i + 0).toNatClampNeg) lo) := by
  unfold fn_X6_lowOf zVal
  rw [zMade0 hN hi, zb_some, zAmt0 hN hi, zb_some]
  by_cases c : made (2 * i + 0).toNatClampNeg = (-1)
  · rw [if_pos (by rw [c]; decide), if_pos c]
  · rw [if_neg (by grind), if_neg (by grind), if_neg c, zg_in 14 (by decide +kernel) ⟨by grind, by grind⟩]
theorem zLowJ1 {i cN : Int32} {made amt : Nat → Int32} {lo : Nat → Int64} (hN : cN ≤ 14) (hi : 0 ≤ i ∧ i < cN) (hm : (-1) ≤ made (2 * i + 1).toNatClampNeg ∧ made (2 * i + 1).toNatClampNeg < i) : fn_X6_lowOf i 1 cN made amt lo = some (zVal (made (2 * i + 1).toNatClampNeg) (amt (2 * i + 1).toNatClampNeg) lo) := by
  unfold fn_X6_lowOf zVal
  rw [zMade1 hN hi, zb_some, zAmt1 hN hi, zb_some]
  by_cases c : made (2 * i + 1).toNatClampNeg = (-1)
  · rw [if_pos (by rw [c]; decide), if_pos c]
  · rw [if_neg (by grind), if_neg (by grind), if_neg c, zg_in 14 (by decide +kernel) ⟨by grind, by grind⟩]
theorem zHighJ {p2 p3 v1_0 : Int32} {f2 f3 : Nat → Int32} {f4 : Nat → Int64} : fn_X6_highOf p2 p3 v1_0 f2 f3 f4 = fn_X6_lowOf p2 p3 v1_0 f2 f3 f4 := rfl
theorem zEndJ {i cN g : Int32} {a : Int64} {made amt : Nat → Int32} {lo hi : Nat → Int64} (hN : cN ≤ 14) (hi' : 0 ≤ i ∧ i < cN) (hm : (-1) ≤ made (2 * i + 1).toNatClampNeg ∧ made (2 * i + 1).toNatClampNeg < i) : fn_X6_endProduct i a g cN made amt lo hi = some (if g = 0 then zLs (zPr a (zVal (made (2 * i + 1).toNatClampNeg) (amt (2 * i + 1).toNatClampNeg) lo) 1) (zPr a (zVal (made (2 * i + 1).toNatClampNeg) (amt (2 * i + 1).toNatClampNeg) hi) 1) else zMx (zPr a (zVal (made (2 * i + 1).toNatClampNeg) (amt (2 * i + 1).toNatClampNeg) lo) 1) (zPr a (zVal (made (2 * i + 1).toNatClampNeg) (amt (2 * i + 1).toNatClampNeg) hi) 1)) := by
  have e : ∀ x : Int64, fn_X11_apply 3 a x 1 = some (zPr a x 1) := fun x => by rw [zApJ (by decide) zone64]; rfl
  unfold fn_X6_endProduct
  simp only [zHighJ, zLowJ1 hN hi' hm, zb_some, e]
  by_cases c : g = 0
  · rw [if_pos c, if_pos c]; rfl
  · rw [if_neg c, if_neg c]; rfl
theorem zLwJ {i cN : Int32} {op made amt : Nat → Int32} {lo hi : Nat → Int64} (hN : cN ≤ 14) (hi' : 0 ≤ i ∧ i < cN) (hk : zOk i op made) : fn_X6_lowest i cN op made amt lo hi = some (zLw i op made amt lo hi) := by
  obtain ⟨k1, k2, k3, k4⟩ := hk
  unfold fn_X6_lowest zLw zLoV
  rw [zg_in 14 (by decide +kernel) ⟨hi'.1, by grind⟩]
  simp only [zHighJ, zLowJ0 hN hi' k2, zLowJ1 hN hi' k3, zEndJ hN hi' k3, zb_some, if_true]
  by_cases c0 : op i.toNatClampNeg = 0
  · rw [if_pos c0, if_pos c0]
    unfold zVal
    rw [if_pos (k4 c0).1]
  · rw [if_neg c0, if_neg c0]
    have h1 : 1 ≤ op i.toNatClampNeg ∧ op i.toNatClampNeg ≤ 5 := ⟨by grind, k1.2⟩
    simp only [zApJ h1 zone64, zb_some]
    by_cases c3 : op i.toNatClampNeg = 3
    · rw [if_pos c3, if_neg (show ¬ op i.toNatClampNeg = 2 by rw [c3]; decide), if_pos c3]; rfl
    · rw [if_neg c3]
      by_cases c2 : op i.toNatClampNeg = 2
      · rw [if_pos c2, if_pos c2]
        unfold zAp
        rw [if_neg (show ¬ op i.toNatClampNeg = 1 by rw [c2]; decide), if_pos c2]
      · rw [if_neg c2, if_neg c2, if_neg c3]
theorem zHgJ {i cN : Int32} {op made amt : Nat → Int32} {lo hi : Nat → Int64} (hN : cN ≤ 14) (hi' : 0 ≤ i ∧ i < cN) (hk : zOk i op made) : fn_X6_highest i cN op made amt hi lo = some (zHg i op made amt lo hi) := by
  obtain ⟨k1, k2, k3, k4⟩ := hk
  have h10 : ¬ (1 : Int32) = 0 := by decide
  unfold fn_X6_highest zHg zHiV
  rw [zg_in 14 (by decide +kernel) ⟨hi'.1, by grind⟩]
  simp only [zHighJ, zLowJ0 hN hi' k2, zLowJ1 hN hi' k3, zEndJ hN hi' k3, zb_some, if_neg h10]
  by_cases c0 : op i.toNatClampNeg = 0
  · rw [if_pos c0, if_pos c0]
    unfold zVal
    rw [if_pos (k4 c0).2]
  · rw [if_neg c0, if_neg c0]
    have h1 : 1 ≤ op i.toNatClampNeg ∧ op i.toNatClampNeg ≤ 5 := ⟨by grind, k1.2⟩
    simp only [zApJ h1 zone64, zb_some]
    by_cases c3 : op i.toNatClampNeg = 3
    · rw [if_pos c3, if_neg (show ¬ op i.toNatClampNeg = 2 by rw [c3]; decide), if_pos c3]
      exact congrArg some (zMx_comm _ _)
    · rw [if_neg c3]
      by_cases c2 : op i.toNatClampNeg = 2
      · rw [if_pos c2, if_pos c2]
        unfold zAp
        rw [if_neg (show ¬ op i.toNatClampNeg = 1 by rw [c2]; decide), if_pos c2]
      · rw [if_neg c2, if_neg c2, if_neg c3]
/-! the reference's -/
theorem zLowM {k s : Int32} {m1 m2 : Nat → Int32} {lo mA mB : Nat → Int64} {x : Int64} (h : fn_X12_lowOf k s m1 m2 lo mA mB = some x) : x = if s = 0 then (if m1 k.toNatClampNeg = (-1) then mA k.toNatClampNeg else lo (m1 k.toNatClampNeg).toNatClampNeg) else (if m2 k.toNatClampNeg = (-1) then mB k.toNatClampNeg else lo (m2 k.toNatClampNeg).toNatClampNeg) := by
  unfold fn_X12_lowOf at h
  simp only [zj] at h
  by_cases c : s = 0
  · rw [if_pos c] at h ⊢
    obtain ⟨-, h⟩ := zg_s h
    by_cases d : m1 k.toNatClampNeg = (-1)
    · rw [if_pos d, if_pos c] at h
      rw [if_pos d]
      obtain ⟨-, h⟩ := zg_s h
      exact (Option.some.inj h).symm
    · rw [if_neg d] at h ⊢
      obtain ⟨-, h⟩ := zg_s h
      exact (Option.some.inj h).symm
  · rw [if_neg c] at h ⊢
    obtain ⟨-, h⟩ := zg_s h
    by_cases d : m2 k.toNatClampNeg = (-1)
    · rw [if_pos d, if_neg c] at h
      rw [if_pos d]
      obtain ⟨-, h⟩ := zg_s h
      exact (Option.some.inj h).symm
    · rw [if_neg d] at h ⊢
      obtain ⟨-, h⟩ := zg_s h
      exact (Option.some.inj h).symm
theorem zHighM {k s : Int32} {m1 m2 : Nat → Int32} {lo mA mB : Nat → Int64} : fn_X12_highOf k s m1 m2 lo mA mB = fn_X12_lowOf k s m1 m2 lo mA mB := rfl
theorem zLaysR {k wn cF : Int32} {wb : Int64} {nN op fx al made amt lets mNN mO m1 m2 mX mW : Nat → Int32} {mA mB lo hi : Nat → Int64} {x : (Nat → Int64) × (Nat → Int64)} (hk : zN01 k cF nN op fx al made amt lets mNN mO m1 m2 mX mW mA mB) (h : fn_X12_laysRange k wn wb mO m1 m2 lo mA mB hi = some x) : x = (vp_updL lo k.toNatClampNeg (zLw k op made amt lo hi - (if k = wn ∧ op k.toNatClampNeg = 0 then wb else 0)), vp_updL hi k.toNatClampNeg (zHg k op made amt lo hi + (if k = wn ∧ op k.toNatClampNeg = 0 then wb else 0))) := by
  obtain ⟨q1, q2, q3, q4, q5, q6, q7, q8, q9, q10, q11, q12, q13, q14, q15, q16, q17⟩ := hk
  have e0 : ∀ row : Nat → Int64, (if m1 k.toNatClampNeg = (-1) then mA k.toNatClampNeg else row (m1 k.toNatClampNeg).toNatClampNeg) = zVal (made (2 * k + 0).toNatClampNeg) (amt (2 * k + 0).toNatClampNeg) row := fun row => by rw [← q5, q7]; rfl
  have e1 : ∀ row : Nat → Int64, (if m2 k.toNatClampNeg = (-1) then mB k.toNatClampNeg else row (m2 k.toNatClampNeg).toNatClampNeg) = zVal (made (2 * k + 1).toNatClampNeg) (amt (2 * k + 1).toNatClampNeg) row := fun row => by rw [← q6, q8]; rfl
  have h10 : ¬ (1 : Int32) = 0 := by decide
  unfold fn_X12_laysRange at h
  obtain ⟨-, h⟩ := zg_s h
  simp only [zj, zHighM] at h
  unfold zLw zHg zLoV zHiV
  rw [q2]
  by_cases c0 : mO k.toNatClampNeg = 0
  · rw [if_pos c0] at h
    by_cases d : k = wn
    · rw [if_pos d] at h
      obtain ⟨-, h⟩ := zg_s h
      obtain ⟨-, h⟩ := zg_s h
      rw [← Option.some.inj h, if_pos c0, if_pos c0, if_pos (show k = wn ∧ mO k.toNatClampNeg = 0 from ⟨d, c0⟩), q7, q8]
    · rw [if_neg d] at h
      obtain ⟨-, h⟩ := zg_s h
      obtain ⟨-, h⟩ := zg_s h
      rw [← Option.some.inj h, if_pos c0, if_pos c0, if_neg (show ¬ (k = wn ∧ mO k.toNatClampNeg = 0) from fun q => d q.1), q7, q8]
  · rw [if_neg c0] at h
    rw [if_neg c0, if_neg c0, if_neg (show ¬ (k = wn ∧ mO k.toNatClampNeg = 0) from fun q => c0 q.2), Int64.sub_zero, Int64.add_zero]
    obtain ⟨a, ha, h⟩ := zb_s h
    obtain ⟨b, hb, h⟩ := zb_s h
    obtain ⟨c, hc, h⟩ := zb_s h
    obtain ⟨d, hd, h⟩ := zb_s h
    have ha := zLowM ha
    have hb := zLowM hb
    have hc := zLowM hc
    have hd := zLowM hd
    rw [if_pos rfl, e0] at ha hb
    rw [if_neg h10, e1] at hc hd
    rw [← ha, ← hb, ← hc, ← hd]
    by_cases c2 : mO k.toNatClampNeg = 2
    · rw [if_pos c2] at h
      obtain ⟨-, h⟩ := zg_s h
      rw [← Option.some.inj h, if_pos c2, if_pos c2]
    · rw [if_neg c2] at h
      rw [if_neg c2, if_neg c2]
      simp only [zApM zone64, zLes, zGre, zb_some] at h
      by_cases c3 : mO k.toNatClampNeg = 3
      · rw [if_pos c3] at h
        obtain ⟨-, h⟩ := zg_s h
        rw [← Option.some.inj h, if_pos c3, if_pos c3]
        rfl
      · rw [if_neg c3] at h
        obtain ⟨-, h⟩ := zg_s h
        rw [← Option.some.inj h, if_neg c3, if_neg c3]
