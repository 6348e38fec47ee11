/-! ranges of numbers and rows -/
abbrev zV : Type := (Nat → Int32) × (Nat → Nat → Int32) × (Nat → Nat → Int64)
def zr (f : Nat → Int32) (lo hi : Int) : Prop := ∀ j : Nat, lo ≤ (f j).toInt ∧ (f j).toInt ≤ hi
theorem zr_at {f : Nat → Int32} {lo hi : Int} {x : Int32} {j : Nat} (h : zr f lo hi) (e : x = f j) : lo ≤ x.toInt ∧ x.toInt ≤ hi := by rw [e]; exact h j
theorem zr_upd {f g : Nat → Int32} {lo hi : Int} {x : Int32} {k : Nat} (e : g = upd f k x) (h : zr f lo hi) (hx : lo ≤ x.toInt ∧ x.toInt ≤ hi) : zr g lo hi := by
  intro j
  rw [e, upd]
  split
  · exact hx
  · exact h j
theorem zk_lt {x y : Int32} {a b : Int} (ha : x.toInt = a) (hb : y.toInt = b) (h : x < y) : a < b := by rw [← ha, ← hb]; exact Int32.lt_iff_toInt_lt.mp h
theorem zk_nlt {x y : Int32} {a b : Int} (ha : x.toInt = a) (hb : y.toInt = b) (h : ¬ x < y) : ¬ a < b := by rw [← ha, ← hb]; exact fun q => h (Int32.lt_iff_toInt_lt.mpr q)
theorem zk_le {x y : Int32} {a b : Int} (ha : x.toInt = a) (hb : y.toInt = b) (h : x ≤ y) : a ≤ b := by rw [← ha, ← hb]; exact Int32.le_iff_toInt_le.mp h
theorem zk_nle {x y : Int32} {a b : Int} (ha : x.toInt = a) (hb : y.toInt = b) (h : ¬ x ≤ y) : ¬ a ≤ b := by rw [← ha, ← hb]; exact fun q => h (Int32.le_iff_toInt_le.mpr q)
theorem zk_eq {x y : Int32} {a b : Int} (ha : x.toInt = a) (hb : y.toInt = b) (h : x = y) : a = b := by rw [← ha, ← hb, h]
theorem zk_ne {x y : Int32} {a b : Int} (ha : x.toInt = a) (hb : y.toInt = b) (h : ¬ x = y) : ¬ a = b := by rw [← ha, ← hb]; exact fun q => h (Int32.toInt_inj.mp q)
theorem zo_add {x y z : Int32} {a b : Int} (e : z = x + y) (ha : x.toInt = a) (hb : y.toInt = b) (h : -2147483648 ≤ a + b ∧ a + b < 2147483648) : z.toInt = a + b := by
  rw [e, Int32.toInt_add, ha, hb, Int.bmod_def]
  split <;> omega
theorem zo_sub {x y z : Int32} {a b : Int} (e : z = x - y) (ha : x.toInt = a) (hb : y.toInt = b) (h : -2147483648 ≤ a - b ∧ a - b < 2147483648) : z.toInt = a - b := by
  rw [e, Int32.toInt_sub, ha, hb, Int.bmod_def]
  split <;> omega
theorem zo_mul {x y z : Int32} {a b : Int} (e : z = x * y) (ha : x.toInt = a) (hb : y.toInt = b) (h : -2147483648 ≤ a * b ∧ a * b < 2147483648) : z.toInt = a * b := by
  rw [e, Int32.toInt_mul, ha, hb, Int.bmod_def]
  generalize a * b = q at h ⊢
  split <;> omega
theorem zn_b {x : Int32} (h : 0 ≤ x.toInt ∧ x.toInt ≤ 1) : narrow .boolean (.int x) = .int x := by
  rcases (show x.toInt = 0 ∨ x.toInt = 1 by omega) with q | q
  · rw [show x = 0 from Int32.toInt_inj.mp (by rw [q]; decide +kernel)]; rfl
  · rw [show x = 1 from Int32.toInt_inj.mp (by rw [q]; decide +kernel)]; rfl
theorem zv_in {i : Int32} {n : Nat} (h : decide (¬ (i < 0 ∨ n ≤ i.toNatClampNeg)) = true) : vp_in i n := (of_decide_eq_true h : ¬ (i < 0 ∨ n ≤ i.toNatClampNeg))
theorem zo_max {x y z : Int32} {a b : Int} (e : z = if x < y then y else x) (ha : x.toInt = a) (hb : y.toInt = b) : (z.toInt = a ∨ z.toInt = b) ∧ a ≤ z.toInt ∧ b ≤ z.toInt := by
  subst e
  split
  · rename_i h
    have := Int32.lt_iff_toInt_lt.mp h
    omega
  · rename_i h
    have : ¬ x.toInt < y.toInt := fun q => h (Int32.lt_iff_toInt_lt.mpr q)
    omega
theorem zo_min {x y z : Int32} {a b : Int} (e : z = if y < x then y else x) (ha : x.toInt = a) (hb : y.toInt = b) : (z.toInt = a ∨ z.toInt = b) ∧ z.toInt ≤ a ∧ z.toInt ≤ b := by
  subst e
  split
  · rename_i h
    have := Int32.lt_iff_toInt_lt.mp h
    omega
  · rename_i h
    have : ¬ y.toInt < x.toInt := fun q => h (Int32.lt_iff_toInt_lt.mpr q)
    omega
theorem zu_same {f g : Nat → Int32} {k : Nat} {x : Int32} (e : g = upd f k x) : g k = x := by rw [e, upd, if_pos rfl]
