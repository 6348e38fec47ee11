/-! small rows: comparisons as integers, the answers of the calls that have two, what a new object holds -/
abbrev zU : Type := (Nat → Nat) × (Nat → Nat → Int32)
theorem zi_lt {x y : Int32} (h : x < y) : x.toInt < y.toInt := Int32.lt_iff_toInt_lt.mp h
theorem zi_nlt {x y : Int32} (h : ¬ x < y) : ¬ x.toInt < y.toInt := fun q => h (Int32.lt_iff_toInt_lt.mpr q)
theorem zi_le {x y : Int32} (h : x ≤ y) : x.toInt ≤ y.toInt := Int32.le_iff_toInt_le.mp h
theorem zi_nle {x y : Int32} (h : ¬ x ≤ y) : ¬ x.toInt ≤ y.toInt := fun q => h (Int32.le_iff_toInt_le.mpr q)
theorem zi_eq {x y : Int32} (h : x = y) : x.toInt = y.toInt := by rw [h]
theorem zi_ne {x y : Int32} (h : ¬ x = y) : ¬ x.toInt = y.toInt := fun q => h (Int32.toInt_inj.mp q)
theorem zl_lt {x y : Int64} (h : lg_cmp x y < 0) : x.toInt < y.toInt := Int64.lt_iff_toInt_lt.mp ((lg_cmp_lt x y).mp h)
theorem zl_nlt {x y : Int64} (h : ¬ lg_cmp x y < 0) : ¬ x.toInt < y.toInt := fun q => h ((lg_cmp_lt x y).mpr (Int64.lt_iff_toInt_lt.mpr q))
theorem zl_gt {x y : Int64} (h : 0 < lg_cmp x y) : y.toInt < x.toInt := Int64.lt_iff_toInt_lt.mp ((lg_cmp_gt x y).mp h)
theorem zl_ngt {x y : Int64} (h : ¬ 0 < lg_cmp x y) : ¬ y.toInt < x.toInt := fun q => h ((lg_cmp_gt x y).mpr (Int64.lt_iff_toInt_lt.mpr q))
theorem zl_ge {x y : Int64} (h : 0 ≤ lg_cmp x y) : y.toInt ≤ x.toInt := Int64.le_iff_toInt_le.mp ((lg_cmp_ge x y).mp h)
theorem zl_nge {x y : Int64} (h : ¬ 0 ≤ lg_cmp x y) : ¬ y.toInt ≤ x.toInt := fun q => h ((lg_cmp_ge x y).mpr (Int64.le_iff_toInt_le.mpr q))
theorem zl_le {x y : Int64} (h : lg_cmp x y ≤ 0) : x.toInt ≤ y.toInt := Int64.le_iff_toInt_le.mp ((lg_cmp_le x y).mp h)
theorem zl_nle {x y : Int64} (h : ¬ lg_cmp x y ≤ 0) : ¬ x.toInt ≤ y.toInt := fun q => h ((lg_cmp_le x y).mpr (Int64.le_iff_toInt_le.mpr q))
theorem zl_eq {x y : Int64} (h : lg_cmp x y = 0) : x.toInt = y.toInt := by rw [(lg_cmp_eq x y).mp h]
theorem zl_ne {x y : Int64} (h : ¬ lg_cmp x y = 0) : ¬ x.toInt = y.toInt := fun q => h ((lg_cmp_eq x y).mpr (Int64.toInt_inj.mp q))
theorem zv_in {i : Int32} {n : Nat} (h : decide (¬ (i < 0 ∨ n ≤ i.toNatClampNeg)) = true) : vp_in i n := (of_decide_eq_true h : ¬ (i < 0 ∨ n ≤ i.toNatClampNeg))
def zs_end (n : Int32) : Int32 := if n.toInt = 0 then 1 else 0
theorem zs_end_0 {n : Int32} (h : ¬ n.toInt = 0) : 0 = zs_end n := by rw [zs_end, if_neg h]
theorem zs_end_1 {n : Int32} (h : n.toInt = 0) : 1 = zs_end n := by rw [zs_end, if_pos h]
def zs_fault (n : Int32) : Int32 := if n.toInt = 0 then 0 else -1
theorem zs_fault_0 {n : Int32} (h : n.toInt = 0) : 0 = zs_fault n := by rw [zs_fault, if_pos h]
theorem zs_fault_m1 {n : Int32} (h : ¬ n.toInt = 0) : -1 = zs_fault n := by rw [zs_fault, if_neg h]
def zs_has (n : Int32) : Int32 := if n.toInt = 7 then 1 else if 0 ≤ n.toInt ∧ n.toInt ≤ 6 then 0 else -1
theorem zs_has_1 {n : Int32} (h : n.toInt = 7) : 1 = zs_has n := by rw [zs_has, if_pos h]
theorem zs_has_0 {n : Int32} (h : 0 ≤ n.toInt ∧ n.toInt ≤ 6) : 0 = zs_has n := by rw [zs_has, if_neg (by omega), if_pos h]
theorem zs_has_m1 {n : Int32} (h : n.toInt < 0 ∨ 7 < n.toInt) : -1 = zs_has n := by rw [zs_has, if_neg (by omega), if_neg (by omega)]
def zs_seed (n : Int32) : Int32 := if n.toInt < 0 then 0 else 1
theorem zs_seed_0 {n : Int32} (h : n.toInt < 0) : 0 = zs_seed n := by rw [zs_seed, if_pos h]
theorem zs_seed_1 {n : Int32} (h : ¬ n.toInt < 0) : 1 = zs_seed n := by rw [zs_seed, if_neg h]
def zs_status (n : Int32) : Int32 := if 0 ≤ n.toInt ∧ n.toInt < 5 then 0 else -1
theorem zs_status_0 {n : Int32} (h : 0 ≤ n.toInt ∧ n.toInt < 5) : 0 = zs_status n := by rw [zs_status, if_pos h]
theorem zs_status_m1 {n : Int32} (h : ¬ (0 ≤ n.toInt ∧ n.toInt < 5)) : -1 = zs_status n := by rw [zs_status, if_neg h]
theorem zd_X0 : ∀ j, j < 5 → defaultValue (tyX0 j) = vp_V [.null, .null, .null, .int 0, .int 0] j := by decide +kernel
theorem zd_X1 : ∀ j, j < 14 → defaultValue (tyX1 j) = vp_V [.null, .null, .int 0, .int 0, .null, .null, .int 0, .int 0, .int 0, .int 0, .int 0, .null, .null, .null] j := by decide +kernel
theorem zd_X2 : ∀ j, j < 6 → defaultValue (tyX2 j) = vp_V [.int 0, .int 0, .int 0, .null, .null, .null] j := by decide +kernel
theorem zd_X3 : ∀ j, j < 16 → defaultValue (tyX3 j) = vp_V [.null, .null, .int 0, .int 0, .null, .null, .null, .null, .int 0, .null, .int 0, .int 0, .int 0, .int 0, .int 0, .int 0] j := by decide +kernel
theorem zd_X4 : ∀ j, j < 10 → defaultValue (tyX4 j) = vp_V [.int 0, .int 0, .null, .null, .null, .null, .null, .null, .null, .null] j := by decide +kernel
theorem zd_X5 : ∀ j, j < 4 → defaultValue (tyX5 j) = vp_V [.null, .int 0, .int 0, .int 0] j := by decide +kernel
theorem zd_X6 : ∀ j, j < 3 → defaultValue (tyX6 j) = vp_V [.null, .null, .null] j := by decide +kernel
theorem zd_X7 : ∀ j, j < 3 → defaultValue (tyX7 j) = vp_V [.null, .int 0, .int 0] j := by decide +kernel
theorem zd_X8 : ∀ j, j < 2 → defaultValue (tyX8 j) = vp_V [.null, .null] j := by decide +kernel
theorem zd_X9 : ∀ j, j < 9 → defaultValue (tyX9 j) = vp_V [.int 0, .null, .null, .null, .null, .int 0, .null, .null, .null] j := by decide +kernel
theorem zd_X10 : ∀ j, j < 8 → defaultValue (tyX10 j) = vp_V [.null, .null, .int 0, .int 0, .int 0, .int 0, .int 0, .int 0] j := by decide +kernel
theorem zd_X11 : ∀ j, j < 16 → defaultValue (tyX11 j) = vp_V [.null, .int 0, .null, .null, .null, .null, .null, .null, .null, .null, .null, .null, .null, .null, .null, .int 0] j := by decide +kernel
theorem zd_X12 : ∀ j, j < 67 → defaultValue (tyX12 j) = vp_V [.null, .int 0, .null, .int 0, .int 0, .int 0, .int 0, .int 0, .int 0, .int 0, .null, .int 0, .null, .null, .null, .null, .null, .null, .null, .null, .null, .null, .null, .null, .null, .null, .null, .null, .long 0, .null, .int 0, .null, .null, .int 0, .long 0, .null, .null, .null, .int 0, .null, .null, .int 0, .int 0, .null, .int 0, .int 0, .null, .null, .null, .null, .int 0, .int 0, .int 0, .int 0, .null, .null, .null, .int 0, .int 0, .int 0, .null, .null, .null, .null, .int 0, .null, .null] j := by decide +kernel
