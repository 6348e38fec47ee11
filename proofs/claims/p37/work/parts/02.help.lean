/-! ranges of numbers and rows -/
noncomputable abbrev zV : Type := (Nat → Int32) × (Nat → Nat → Int32) × (Nat → Nat → Int64)
noncomputable def zr (f : Nat → Int32) (lo hi : Int) : Prop := ∀ j : Nat, lo ≤ (f j).toInt ∧ (f j).toInt ≤ hi
theorem zr_at {f : Nat → Int32} {lo hi : Int} {x : Int32} {j : Nat} (h : zr f lo hi) (e : x = f j) : lo ≤ x.toInt ∧ x.toInt ≤ hi := by rw [e]; exact h j
theorem zr_upd {f g : Nat → Int32} {lo hi : Int} {x : Int32} {k : Nat} (e : g = upd f k x) (h : zr f lo hi) (hx : lo ≤ x.toInt ∧ x.toInt ≤ hi) : zr g lo hi := by
  intro j
  rw [e, upd]
  split
  · exact hx
  · exact h j
theorem zk_lt {x y : Int32} {a b : Int} (ha : x.toInt = a) (hb : y.toInt = b) (h : x < y) : a < b := by rw [← ha, ← hb]; exact Int32.lt_iff_toInt_lt.mp h
theorem zk_nlt {x y : Int32} {a b : Int} (ha : x.toInt = a) (hb : y.toInt = b) (h : ¬ x < y) : ¬ a < b := by rw [← ha, ← hb]; exact fun q => h (Int32.lt_iff_toInt_lt.mpr q)
theorem zk_le {x y : Int32} {a b : Int} (ha : x.toInt = a) (hb : y.toInt = b) (h : x ≤ y) : a ≤ b := by rw [← ha, ← hb]; exact Int32.le_iff_toInt_le.mp h
theorem zk_nle {x y : Int32} {a b : Int} (ha : x.toInt = a) (hb : y.toInt = b) (h : ¬ x ≤ y) : ¬ a ≤ b := by rw [← ha, ← hb]; exact fun q => h (Int32.le_iff_toInt_le.mpr q)
theorem zk_eq {x y : Int32} {a b : Int} (ha : x.toInt = a) (hb : y.toInt = b) (h : x = y) : a = b := by rw [← ha, ← hb, h]
theorem zk_ne {x y : Int32} {a b : Int} (ha : x.toInt = a) (hb : y.toInt = b) (h : ¬ x = y) : ¬ a = b := by rw [← ha, ← hb]; exact fun q => h (Int32.toInt_inj.mp q)
theorem zo_add {x y z : Int32} {a b : Int} (e : z = x + y) (ha : x.toInt = a) (hb : y.toInt = b) (h : -2147483648 ≤ a + b ∧ a + b < 2147483648) : z.toInt = a + b := by
  rw [e, Int32.toInt_add, ha, hb, Int.bmod_def]
  split <;> omega
theorem zo_sub {x y z : Int32} {a b : Int} (e : z = x - y) (ha : x.toInt = a) (hb : y.toInt = b) (h : -2147483648 ≤ a - b ∧ a - b < 2147483648) : z.toInt = a - b := by
  rw [e, Int32.toInt_sub, ha, hb, Int.bmod_def]
  split <;> omega
theorem zo_mul {x y z : Int32} {a b : Int} (e : z = x * y) (ha : x.toInt = a) (hb : y.toInt = b) (h : -2147483648 ≤ a * b ∧ a * b < 2147483648) : z.toInt = a * b := by
  rw [e, Int32.toInt_mul, ha, hb, Int.bmod_def]
  generalize a * b = q at h ⊢
  split <;> omega
theorem zn_b {x : Int32} (h : 0 ≤ x.toInt ∧ x.toInt ≤ 1) : narrow .boolean (.int x) = .int x := by
  rcases (show x.toInt = 0 ∨ x.toInt = 1 by omega) with q | q
  · rw [show x = 0 from Int32.toInt_inj.mp (by rw [q]; decide +kernel)]; rfl
  · rw [show x = 1 from Int32.toInt_inj.mp (by rw [q]; decide +kernel)]; rfl
theorem zv_in {i : Int32} {n : Nat} (h : decide (¬ (i < 0 ∨ n ≤ i.toNatClampNeg)) = true) : vp_in i n := (of_decide_eq_true h : ¬ (i < 0 ∨ n ≤ i.toNatClampNeg))
theorem zo_max {x y z : Int32} {a b : Int} (e : z = if x < y then y else x) (ha : x.toInt = a) (hb : y.toInt = b) : (z.toInt = a ∨ z.toInt = b) ∧ a ≤ z.toInt ∧ b ≤ z.toInt := by
  subst e
  split
  · rename_i h
    have := Int32.lt_iff_toInt_lt.mp h
    omega
  · rename_i h
    have : ¬ x.toInt < y.toInt := fun q => h (Int32.lt_iff_toInt_lt.mpr q)
    omega
theorem zo_min {x y z : Int32} {a b : Int} (e : z = if y < x then y else x) (ha : x.toInt = a) (hb : y.toInt = b) : (z.toInt = a ∨ z.toInt = b) ∧ z.toInt ≤ a ∧ z.toInt ≤ b := by
  subst e
  split
  · rename_i h
    have := Int32.lt_iff_toInt_lt.mp h
    omega
  · rename_i h
    have : ¬ y.toInt < x.toInt := fun q => h (Int32.lt_iff_toInt_lt.mpr q)
    omega
theorem zu_same {f g : Nat → Int32} {k : Nat} {x : Int32} (e : g = upd f k x) : g k = x := by rw [e, upd, if_pos rfl]
theorem znz {y : Int64} (h : ¬ y.toInt = 0) : ¬ y = 0 := fun q => h (by rw [q]; decide +kernel)
theorem zni {y : Int32} (h : ¬ y.toInt = 0) : ¬ y = 0 := fun q => h (by rw [q]; decide +kernel)
theorem zl_dbl {x z : Int64} (e : z = 2 * x) : x.toInt < 1 ∨ ¬ z.toInt = 0 := by
  have k2 : (2 : Int64).toInt = 2 := by decide +kernel
  have h1 := Int64.toInt_lt x
  rw [e, Int64.toInt_mul, k2, Int.bmod_def]
  split <;> omega
theorem zq_lt {x y : Int64} {a b : Int} (ha : x.toInt = a) (hb : y.toInt = b) (h : lg_cmp x y < 0) : a < b := by rw [← ha, ← hb]; exact Int64.lt_iff_toInt_lt.mp ((lg_cmp_lt x y).mp h)
theorem zq_nlt {x y : Int64} {a b : Int} (ha : x.toInt = a) (hb : y.toInt = b) (h : ¬ lg_cmp x y < 0) : ¬ a < b := by rw [← ha, ← hb]; exact fun q => h ((lg_cmp_lt x y).mpr (Int64.lt_iff_toInt_lt.mpr q))
theorem zq_gt {x y : Int64} {a b : Int} (ha : x.toInt = a) (hb : y.toInt = b) (h : 0 < lg_cmp x y) : b < a := by rw [← ha, ← hb]; exact Int64.lt_iff_toInt_lt.mp ((lg_cmp_gt x y).mp h)
theorem zq_ngt {x y : Int64} {a b : Int} (ha : x.toInt = a) (hb : y.toInt = b) (h : ¬ 0 < lg_cmp x y) : ¬ b < a := by rw [← ha, ← hb]; exact fun q => h ((lg_cmp_gt x y).mpr (Int64.lt_iff_toInt_lt.mpr q))
theorem zq_ge {x y : Int64} {a b : Int} (ha : x.toInt = a) (hb : y.toInt = b) (h : 0 ≤ lg_cmp x y) : b ≤ a := by rw [← ha, ← hb]; exact Int64.le_iff_toInt_le.mp ((lg_cmp_ge x y).mp h)
theorem zq_nge {x y : Int64} {a b : Int} (ha : x.toInt = a) (hb : y.toInt = b) (h : ¬ 0 ≤ lg_cmp x y) : ¬ b ≤ a := by rw [← ha, ← hb]; exact fun q => h ((lg_cmp_ge x y).mpr (Int64.le_iff_toInt_le.mpr q))
theorem zq_le {x y : Int64} {a b : Int} (ha : x.toInt = a) (hb : y.toInt = b) (h : lg_cmp x y ≤ 0) : a ≤ b := by rw [← ha, ← hb]; exact Int64.le_iff_toInt_le.mp ((lg_cmp_le x y).mp h)
theorem zq_nle {x y : Int64} {a b : Int} (ha : x.toInt = a) (hb : y.toInt = b) (h : ¬ lg_cmp x y ≤ 0) : ¬ a ≤ b := by rw [← ha, ← hb]; exact fun q => h ((lg_cmp_le x y).mpr (Int64.le_iff_toInt_le.mpr q))
theorem zq_eq {x y : Int64} {a b : Int} (ha : x.toInt = a) (hb : y.toInt = b) (h : lg_cmp x y = 0) : a = b := by rw [← ha, ← hb, (lg_cmp_eq x y).mp h]
theorem zq_ne {x y : Int64} {a b : Int} (ha : x.toInt = a) (hb : y.toInt = b) (h : ¬ lg_cmp x y = 0) : ¬ a = b := by rw [← ha, ← hb]; exact fun q => h ((lg_cmp_eq x y).mpr (Int64.toInt_inj.mp q))
theorem zo_idiv {x y z : Int32} {a b : Int} (e : z = x / y) (ha : x.toInt = a) (hb : y.toInt = b) (h : 0 ≤ a ∧ 0 < b) : z.toInt = a / b := by
  have h1 := Int32.toInt_lt x
  have h2 : a / b ≤ a := Int.ediv_le_self b h.1
  have h3 : 0 ≤ a / b := Int.ediv_nonneg h.1 (Int.le_of_lt h.2)
  rw [e, Int32.toInt_div, ha, hb, Int.tdiv_eq_ediv_of_nonneg h.1, Int.bmod_def]
  generalize a / b = q at h2 h3 ⊢
  split <;> omega
theorem zo_irem {x y z : Int32} {a b : Int} (e : z = x % y) (ha : x.toInt = a) (hb : y.toInt = b) (h : 0 ≤ a ∧ 0 < b) : z.toInt = a % b ∧ 0 ≤ z.toInt ∧ z.toInt < b := by
  have h1 : z.toInt = a % b := by rw [e, Int32.toInt_mod, ha, hb, Int.tmod_eq_emod_of_nonneg h.1]
  refine ⟨h1, ?_, ?_⟩
  · rw [h1]; exact Int.emod_nonneg _ (by omega)
  · rw [h1]; exact Int.emod_lt_of_pos _ h.2
theorem zo_and1 {x z : Int32} (e : z = x &&& 1) : 0 ≤ z.toInt ∧ z.toInt ≤ 1 := by
  have hb : z.toBitVec = x.toBitVec &&& 1#32 := by rw [e]; rfl
  have hn : z.toBitVec.toNat ≤ 1 := by rw [hb, BitVec.toNat_and]; exact Nat.and_le_right
  have ht : z.toInt = z.toBitVec.toNat := by
    show z.toBitVec.toInt = _
    rw [BitVec.toInt_eq_toNat_of_lt (by omega)]
  omega
theorem zo_and31 {x z : Int32} (e : z = x &&& 31) : 0 ≤ z.toInt ∧ z.toInt ≤ 31 := by
  have hb : z.toBitVec = x.toBitVec &&& 31#32 := by rw [e]; rfl
  have hn : z.toBitVec.toNat ≤ 31 := by rw [hb, BitVec.toNat_and]; exact Nat.and_le_right
  have ht : z.toInt = z.toBitVec.toNat := by
    show z.toBitVec.toInt = _
    rw [BitVec.toInt_eq_toNat_of_lt (by omega)]
  omega
theorem zo_and63 {x z : Int32} (e : z = x &&& 63) : 0 ≤ z.toInt ∧ z.toInt ≤ 63 := by
  have hb : z.toBitVec = x.toBitVec &&& 63#32 := by rw [e]; rfl
  have hn : z.toBitVec.toNat ≤ 63 := by rw [hb, BitVec.toNat_and]; exact Nat.and_le_right
  have ht : z.toInt = z.toBitVec.toNat := by
    show z.toBitVec.toInt = _
    rw [BitVec.toInt_eq_toNat_of_lt (by omega)]
  omega
theorem zo_and255 {x z : Int32} (e : z = x &&& 255) : 0 ≤ z.toInt ∧ z.toInt ≤ 255 := by
  have hb : z.toBitVec = x.toBitVec &&& 255#32 := by rw [e]; rfl
  have hn : z.toBitVec.toNat ≤ 255 := by rw [hb, BitVec.toNat_and]; exact Nat.and_le_right
  have ht : z.toInt = z.toBitVec.toNat := by
    show z.toBitVec.toInt = _
    rw [BitVec.toInt_eq_toNat_of_lt (by omega)]
  omega
