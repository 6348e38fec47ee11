/-! small rows: comparisons as integers, the answers of the calls that have two, what a new object holds -/
noncomputable abbrev zU : Type := (Nat → Nat) × (Nat → Nat → Int32)
theorem zi_lt {x y : Int32} (h : x < y) : x.toInt < y.toInt := Int32.lt_iff_toInt_lt.mp h
theorem zi_nlt {x y : Int32} (h : ¬ x < y) : ¬ x.toInt < y.toInt := fun q => h (Int32.lt_iff_toInt_lt.mpr q)
theorem zi_le {x y : Int32} (h : x ≤ y) : x.toInt ≤ y.toInt := Int32.le_iff_toInt_le.mp h
theorem zi_nle {x y : Int32} (h : ¬ x ≤ y) : ¬ x.toInt ≤ y.toInt := fun q => h (Int32.le_iff_toInt_le.mpr q)
theorem zi_eq {x y : Int32} (h : x = y) : x.toInt = y.toInt := by rw [h]
theorem zi_ne {x y : Int32} (h : ¬ x = y) : ¬ x.toInt = y.toInt := fun q => h (Int32.toInt_inj.mp q)
theorem zl_lt {x y : Int64} (h : lg_cmp x y < 0) : x.toInt < y.toInt := Int64.lt_iff_toInt_lt.mp ((lg_cmp_lt x y).mp h)
theorem zl_nlt {x y : Int64} (h : ¬ lg_cmp x y < 0) : ¬ x.toInt < y.toInt := fun q => h ((lg_cmp_lt x y).mpr (Int64.lt_iff_toInt_lt.mpr q))
theorem zl_gt {x y : Int64} (h : 0 < lg_cmp x y) : y.toInt < x.toInt := Int64.lt_iff_toInt_lt.mp ((lg_cmp_gt x y).mp h)
theorem zl_ngt {x y : Int64} (h : ¬ 0 < lg_cmp x y) : ¬ y.toInt < x.toInt := fun q => h ((lg_cmp_gt x y).mpr (Int64.lt_iff_toInt_lt.mpr q))
theorem zl_ge {x y : Int64} (h : 0 ≤ lg_cmp x y) : y.toInt ≤ x.toInt := Int64.le_iff_toInt_le.mp ((lg_cmp_ge x y).mp h)
theorem zl_nge {x y : Int64} (h : ¬ 0 ≤ lg_cmp x y) : ¬ y.toInt ≤ x.toInt := fun q => h ((lg_cmp_ge x y).mpr (Int64.le_iff_toInt_le.mpr q))
theorem zl_le {x y : Int64} (h : lg_cmp x y ≤ 0) : x.toInt ≤ y.toInt := Int64.le_iff_toInt_le.mp ((lg_cmp_le x y).mp h)
theorem zl_nle {x y : Int64} (h : ¬ lg_cmp x y ≤ 0) : ¬ x.toInt ≤ y.toInt := fun q => h ((lg_cmp_le x y).mpr (Int64.le_iff_toInt_le.mpr q))
theorem zl_eq {x y : Int64} (h : lg_cmp x y = 0) : x.toInt = y.toInt := by rw [(lg_cmp_eq x y).mp h]
theorem zl_ne {x y : Int64} (h : ¬ lg_cmp x y = 0) : ¬ x.toInt = y.toInt := fun q => h ((lg_cmp_eq x y).mpr (Int64.toInt_inj.mp q))
noncomputable def zs_end (n : Int32) : Int32 := if n.toInt = 0 then 1 else 0
theorem zs_end_0 {n : Int32} (h : ¬ n.toInt = 0) : 0 = zs_end n := by rw [zs_end, if_neg h]
theorem zs_end_1 {n : Int32} (h : n.toInt = 0) : 1 = zs_end n := by rw [zs_end, if_pos h]
noncomputable def zs_fault (n : Int32) : Int32 := if n.toInt = 0 then 0 else -1
theorem zs_fault_0 {n : Int32} (h : n.toInt = 0) : 0 = zs_fault n := by rw [zs_fault, if_pos h]
theorem zs_fault_m1 {n : Int32} (h : ¬ n.toInt = 0) : -1 = zs_fault n := by rw [zs_fault, if_neg h]
noncomputable def zs_has (n : Int32) : Int32 := if n.toInt = 7 then 1 else if 0 ≤ n.toInt ∧ n.toInt ≤ 6 then 0 else -1
theorem zs_has_1 {n : Int32} (h : n.toInt = 7) : 1 = zs_has n := by rw [zs_has, if_pos h]
theorem zs_has_0 {n : Int32} (h : 0 ≤ n.toInt ∧ n.toInt ≤ 6) : 0 = zs_has n := by rw [zs_has, if_neg (by omega), if_pos h]
theorem zs_has_m1 {n : Int32} (h : n.toInt < 0 ∨ 7 < n.toInt) : -1 = zs_has n := by rw [zs_has, if_neg (by omega), if_neg (by omega)]
noncomputable def zs_seed (n : Int32) : Int32 := if n.toInt < 0 then 0 else 1
theorem zs_seed_0 {n : Int32} (h : n.toInt < 0) : 0 = zs_seed n := by rw [zs_seed, if_pos h]
theorem zs_seed_1 {n : Int32} (h : ¬ n.toInt < 0) : 1 = zs_seed n := by rw [zs_seed, if_neg h]
noncomputable def zs_status (n : Int32) : Int32 := if 0 ≤ n.toInt ∧ n.toInt < 5 then 0 else -1
theorem zs_status_0 {n : Int32} (h : 0 ≤ n.toInt ∧ n.toInt < 5) : 0 = zs_status n := by rw [zs_status, if_pos h]
theorem zs_status_m1 {n : Int32} (h : ¬ (0 ≤ n.toInt ∧ n.toInt < 5)) : -1 = zs_status n := by rw [zs_status, if_neg h]

theorem zd_X0 : ∀ j, j < 5 → defaultValue (tyX0 j) = vp_V [.null, .null, .null, .int 0, .int 0] j := by decide +kernel
theorem zd_X1 : ∀ j, j < 14 → defaultValue (tyX1 j) = vp_V [.null, .null, .int 0, .int 0, .null, .null, .int 0, .int 0, .int 0, .int 0, .int 0, .null, .null, .null] j := by decide +kernel
theorem zd_X2 : ∀ j, j < 6 → defaultValue (tyX2 j) = vp_V [.int 0, .int 0, .int 0, .null, .null, .null] j := by decide +kernel
theorem zd_X3 : ∀ j, j < 16 → defaultValue (tyX3 j) = vp_V [.null, .null, .int 0, .int 0, .null, .null, .null, .null, .int 0, .null, .int 0, .int 0, .int 0, .int 0, .int 0, .int 0] j := by decide +kernel
theorem zd_X4 : ∀ j, j < 10 → defaultValue (tyX4 j) = vp_V [.int 0, .int 0, .null, .null, .null, .null, .null, .null, .null, .null] j := by decide +kernel
theorem zd_X5 : ∀ j, j < 4 → defaultValue (tyX5 j) = vp_V [.null, .int 0, .int 0, .int 0] j := by decide +kernel
theorem zd_X6 : ∀ j, j < 3 → defaultValue (tyX6 j) = vp_V [.null, .null, .null] j := by decide +kernel
theorem zd_X7 : ∀ j, j < 3 → defaultValue (tyX7 j) = vp_V [.null, .int 0, .int 0] j := by decide +kernel
theorem zd_X8 : ∀ j, j < 2 → defaultValue (tyX8 j) = vp_V [.null, .null] j := by decide +kernel
theorem zd_X9 : ∀ j, j < 9 → defaultValue (tyX9 j) = vp_V [.int 0, .null, .null, .null, .null, .int 0, .null, .null, .null] j := by decide +kernel
theorem zd_X10 : ∀ j, j < 8 → defaultValue (tyX10 j) = vp_V [.null, .null, .int 0, .int 0, .int 0, .int 0, .int 0, .int 0] j := by decide +kernel
theorem zd_X11 : ∀ j, j < 16 → defaultValue (tyX11 j) = vp_V [.null, .int 0, .null, .null, .null, .null, .null, .null, .null, .null, .null, .null, .null, .null, .null, .int 0] j := by decide +kernel
theorem zd_X12 : ∀ j, j < 67 → defaultValue (tyX12 j) = vp_V [.null, .int 0, .null, .int 0, .int 0, .int 0, .int 0, .int 0, .int 0, .int 0, .null, .int 0, .null, .null, .null, .null, .null, .null, .null, .null, .null, .null, .null, .null, .null, .null, .null, .null, .long 0, .null, .int 0, .null, .null, .int 0, .long 0, .null, .null, .null, .int 0, .null, .null, .int 0, .int 0, .null, .int 0, .int 0, .null, .null, .null, .null, .int 0, .int 0, .int 0, .int 0, .null, .null, .null, .int 0, .int 0, .int 0, .null, .null, .null, .null, .int 0, .null, .null] j := by decide +kernel

/-! what the Statement gives of the one text: its place, its bytes, the statics that its methods read -/
noncomputable def zBY : List Int32 := [102, 111, 114, 109, 97, 116, 32, 115, 116, 101, 112, 32, 32, 32, 109, 111, 115, 116, 32, 32, 32, 99, 111, 115, 116, 32, 32, 32, 99, 97, 115, 116, 32, 32, 32, 105, 110, 112, 117, 116, 32, 32, 108, 101, 116, 32, 32, 32, 32, 109, 105, 110, 32, 32, 32, 32, 109, 97, 120, 32, 32, 32, 32, 102, 105, 120, 101, 100, 32, 32, 103, 114, 111, 117, 112, 32, 32, 97, 110, 115, 119, 101, 114, 32, 119, 105, 116, 104, 105, 110, 32]
noncomputable def zTX : String := "format step   most   cost   cast   input  let    min    max    fixed  group  answer within "
noncomputable def zF (adK adV : Nat → Nat) (A : Nat → Prop) (U : State) (H : Heap) : Prop := vk_R RX10 19 zTX (adK 0) U ∧ vk_S 1 [91] [zBY] adK adV A U H ∧ va_Z "java/lang/String" "COMPACT_STRINGS" "Z" (.int 1) A U H ∧ va_Zq "jdk/internal/util/Preconditions" "SIOOBE_FORMATTER" "Ljava/util/function/BiFunction;" A U H
theorem zq_moved {C n d : String} {A : Nat → Prop} {u U : State} {H : Heap} (hvm : u.vm.Alike U.vm) (h : va_Zq C n d A u H) : va_Zq C n d A U H := h.elim (fun h => Or.inl (h.moved hvm)) (fun ⟨t, h⟩ => Or.inr ⟨t, h.moved hvm⟩)
theorem zq_kept {C n d : String} {A : Nat → Prop} {U : State} {H H1 : Heap} (h : va_Zq C n d A U H) (hq : ∀ a : Nat, a < H.size → ¬ A a → H1[a]? = H[a]?) : va_Zq C n d A U H1 := h.elim (fun h => Or.inl (h.kept hq)) (fun ⟨t, h⟩ => Or.inr ⟨t, h.kept hq⟩)
theorem zq_narrow {C n d : String} {A B : Nat → Prop} {U : State} {H : Heap} (h : va_Zq C n d A U H) (hAB : ∀ q, B q → A q) : va_Zq C n d B U H := h.elim (fun h => Or.inl (h.narrow hAB)) (fun ⟨t, h⟩ => Or.inr ⟨t, h.narrow hAB⟩)
theorem zF_blind {adK adV : Nat → Nat} {B : Nat → Prop} {U : State} {g : JFrame} {mk : MethodId} {a : Array Value} (h : zF adK adV B U U.heap) : zF adK adV B (U.calling g mk a) (U.calling g mk a).heap := ⟨vk_R.same rfl h.1, vk_S.moved (u := U) (U := U.calling g mk a) (Vm.Alike.refl U.vm) h.2.1, va_Z.moved (u := U) (U := U.calling g mk a) (Vm.Alike.refl U.vm) h.2.2.1, zq_moved (u := U) (U := U.calling g mk a) (Vm.Alike.refl U.vm) h.2.2.2⟩
theorem zF_to {adK adV : Nat → Nat} {A B : Nat → Prop} {s U : State} {H : Heap} {locs : List Loc} (h : zF adK adV A s s.heap) (hS : va_S A s.heap H locs) (hB : ∀ q, B q → A q) (hW : s.WarmedH U.vm) (hU : U.heap = H) : zF adK adV B U U.heap := by
  rw [hU]
  exact ⟨vk_R.warm hW h.1, vk_S.moved hW.alike (vk_S.narrow (vk_S.kept h.2.1 hS.2.1) hB), va_Z.moved hW.alike (va_Z.narrow (va_Z.kept h.2.2.1 hS.2.1) hB), zq_moved hW.alike (zq_narrow (zq_kept h.2.2.2 hS.2.1) hB)⟩
theorem zn_c2 {x y : Int32} (h : (x.toUInt32 % 65536).toInt32 = y) : narrow .char (.int y) = .int y := by
  subst h
  show Value.int _ = Value.int _
  congr 1
  apply Int32.toBitVec_inj.mp
  apply BitVec.eq_of_toNat_eq
  simp
theorem z_inc {x y : Int32} (e : y = x + 1) (h : 0 ≤ x.toInt ∧ x.toInt < 1000) : y.toInt = x.toInt + 1 := by
  have k1 : (1 : Int32).toInt = 1 := by decide +kernel
  rw [e, Int32.toInt_add, k1, Int.bmod_def]
  split <;> omega
theorem z_at {x1 x2 y z : Int32} (ey : y = x1 * 7) (ez : z = y + x2) (h1 : 0 ≤ x1.toInt ∧ x1.toInt < 13) (h2 : 0 ≤ x2.toInt ∧ x2.toInt < 7) : z.toInt = x1.toInt * 7 + x2.toInt := by
  have k7 : (7 : Int32).toInt = 7 := by decide +kernel
  have hy : y.toInt = x1.toInt * 7 := by
    rw [ey, Int32.toInt_mul, k7, Int.bmod_def]
    split <;> omega
  rw [ez, Int32.toInt_add, hy, Int.bmod_def]
  split <;> omega

/-! the letters of the one text, and a name of six of them as one number -/
noncomputable def zChN (k : Nat) : Int32 := ((((([zBY] : List (List Int32)).getD 0 []).getD k 0) &&& 255).toUInt32 % 65536).toInt32
noncomputable def zChr (p : Int32) : Int32 := zChN p.toNatClampNeg
theorem zChr_of {p x y z : Int32} (h1 : x = (([zBY] : List (List Int32)).getD 0 []).getD p.toNatClampNeg 0) (h2 : y = x &&& 255) (h3 : (y.toUInt32 % 65536).toInt32 = z) : z = zChr p := by
  subst h1
  subst h2
  exact h3.symm
noncomputable def zOr (a r : Int32) : Int32 := (a <<< ((5 : Int32) &&& 31)) ||| (if r = 32 then 0 else r - 97 + 1)
theorem zOr_ne {a r : Int32} (h : ¬ r = 32) : (a <<< ((5 : Int32) &&& 31)) ||| (r - 97 + 1) = zOr a r := by
  unfold zOr
  rw [if_neg h]
theorem zOr_eq {a r : Int32} (h : r = 32) : (a <<< ((5 : Int32) &&& 31)) ||| 0 = zOr a r := by
  unfold zOr
  rw [if_pos h]
noncomputable def zOw (w : Nat) : Nat → Int32
  | 0 => 0
  | j + 1 => zOr (zOw w j) (zChN (w * 7 + j))
noncomputable def zOwnI (x1 x2 : Int32) (f : Nat → Int32) : Prop := ∀ w : Nat, f w = if w < x1.toNatClampNeg then zOw w 6 else if w = x1.toNatClampNeg then zOw w x2.toNatClampNeg else 0
noncomputable def zOwnO (x1 : Int32) (f : Nat → Int32) : Prop := ∀ w : Nat, f w = if w < x1.toNatClampNeg then zOw w 6 else 0
theorem zOwn_st {x1 x2 x3 y r v : Int32} {f g : Nat → Int32} (h : zOwnI x1 x2 f) (h3 : x3.toInt = x1.toInt * 7 + x2.toInt) (hr : r = zChr x3) (h1 : 0 ≤ x1.toInt ∧ x1.toInt < 13) (h2 : 0 ≤ x2.toInt) (hy : y.toInt = x2.toInt + 1) (eg : g = upd f x1.toNatClampNeg v) (hv : v = zOr (f x1.toNatClampNeg) r) : zOwnI x1 y g := by
  have k1 : x3.toNatClampNeg = x1.toNatClampNeg * 7 + x2.toNatClampNeg := by
    show x3.toInt.toNat = x1.toInt.toNat * 7 + x2.toInt.toNat
    omega
  have k2 : y.toNatClampNeg = x2.toNatClampNeg + 1 := by
    show y.toInt.toNat = x2.toInt.toNat + 1
    omega
  have k3 := h x1.toNatClampNeg
  rw [if_neg (Nat.lt_irrefl _), if_pos rfl] at k3
  intro w
  rw [eg, k2]
  show (if w = x1.toNatClampNeg then v else f w) = _
  by_cases c : w = x1.toNatClampNeg
  · rw [if_pos c, hv, k3, hr, c, if_neg (Nat.lt_irrefl _), if_pos rfl]
    show zOr _ (zChN x3.toNatClampNeg) = zOr (zOw x1.toNatClampNeg x2.toNatClampNeg) (zChN (x1.toNatClampNeg * 7 + x2.toNatClampNeg))
    rw [k1]
  · rw [if_neg c, h w, if_neg c, if_neg c]
theorem zOwnI_6 {x1 x2 : Int32} {f : Nat → Int32} (h2 : x2.toInt = 6) (h : zOwnI x1 x2 f) : zOwnI x1 6 f := by
  have e : x2 = 6 := Int32.toInt_inj.mp (by rw [h2]; decide +kernel)
  subst e
  exact h
theorem zOwnI_0 {x1 : Int32} {f : Nat → Int32} (h : zOwnO x1 f) : zOwnI x1 0 f := by
  intro w
  rw [h w]
  have e : (0 : Int32).toNatClampNeg = 0 := by decide +kernel
  rw [e]
  by_cases c : w < x1.toNatClampNeg
  · rw [if_pos c, if_pos c]
  · rw [if_neg c, if_neg c]
    by_cases d : w = x1.toNatClampNeg
    · rw [if_pos d]; rfl
    · rw [if_neg d]
theorem zOwnO_n {x1 y : Int32} {f : Nat → Int32} (h : zOwnI x1 6 f) (h1 : 0 ≤ x1.toInt) (hy : y.toInt = x1.toInt + 1) : zOwnO y f := by
  have k : y.toNatClampNeg = x1.toNatClampNeg + 1 := by
    show y.toInt.toNat = x1.toInt.toNat + 1
    omega
  have e : (6 : Int32).toNatClampNeg = 6 := by decide +kernel
  intro w
  rw [h w, k, e]
  by_cases c : w < x1.toNatClampNeg
  · rw [if_pos c, if_pos (by omega)]
  · rw [if_neg c]
    by_cases d : w = x1.toNatClampNeg
    · rw [if_pos d, if_pos (by omega)]
    · rw [if_neg d, if_neg (by omega)]
theorem zOwnO_0 : zOwnO 0 (fun _ => 0) := by
  intro w
  have e : (0 : Int32).toNatClampNeg = 0 := by decide +kernel
  rw [e, if_neg (Nat.not_lt_zero _)]
theorem zOwnO_f {x1 : Int32} {f : Nat → Int32} (h1 : x1.toInt = 13) (h : zOwnO x1 f) (w : Nat) (hw : w < 13) : f w = zOw w 6 := by
  have k : x1.toNatClampNeg = 13 := by
    show x1.toInt.toNat = 13
    omega
  rw [h w, k, if_pos hw]
theorem zOwT_eq : ∀ w : Nat, w < 13 → zOw w 6 = zOwT w := by decide +kernel
