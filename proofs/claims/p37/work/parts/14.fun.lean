theorem zn_X9_isInput_X9 : ∀ w ∈ wsX90, w ∈ wsX9_isInput := fun _ h => List.mem_cons_of_mem _ (List.mem_append_left _ (List.mem_append_right _ h))
theorem zw_X9_isInput_570 : Cond.fieldLink RX9 27 "ShortEnough$Task" "numbers" "LShortEnough$Numbers;" ∈ wsX9_isInput := List.mem_of_getElem? (i := 1) (by decide +kernel)
theorem zn_X9_isInput_X4 : ∀ w ∈ wsX40, w ∈ wsX9_isInput := fun _ h => List.mem_cons_of_mem _ (List.mem_append_right _ h)
theorem zw_X9_isInput_572 : Cond.fieldLink RX9 77 "ShortEnough$Numbers" "op" "[I" ∈ wsX9_isInput := List.mem_of_getElem? (i := 2) (by decide +kernel)
set_option maxHeartbeats 4000000 in
set_option maxRecDepth 100000 in
theorem zf_X9_isInput (l : Launch) (dC : Nat → ClassId) (dI : Nat → Nat → Nat) (h0 : Nat) (p1 : Int32) (v0_0 : Int32) (r0_1 : Nat) (r0_2 : Nat) (r0_3 : Nat) (r0_4 : Nat) (v0_5 : Int32) (r0_6 : Nat) (r0_7 : Nat) (r0_8 : Nat) (v1_0 : Int32) (v1_1 : Int32) (r1_2 : Nat) (r1_3 : Nat) (r1_4 : Nat) (r1_5 : Nat) (r1_6 : Nat) (r1_7 : Nat) (r1_8 : Nat) (r1_9 : Nat) (k2 : Nat) (f2 : Nat → Int32) (o : Int32) (hfn : fn_X9_isInput p1 v1_0 f2 = some o) (sz : Nat) : zMi l yX9_isInput wsX9_isInput ({ frames := 1, cells := 0, slots := 0, locals := 21 }) (dC, dI) vwCl [.ref h0, .int p1] [zV9 h0 v0_0 r0_1 r0_2 r0_3 r0_4 v0_5 r0_6 r0_7 r0_8, zV4 r0_6 v1_0 v1_1 r1_2 r1_3 r1_4 r1_5 r1_6 r1_7 r1_8 r1_9, zVi r1_3 k2 14 f2] [(k2, .int)] (fun r _ => r = o ∧ narrow .boolean (.int o) = .int o) [zV9 h0 v0_0 r0_1 r0_2 r0_3 r0_4 v0_5 r0_6 r0_7 r0_8, zV4 r0_6 v1_0 v1_1 r1_2 r1_3 r1_4 r1_5 r1_6 r1_7 r1_8 r1_9, zVi r1_3 k2 14 f2] [(k2, .int)] sz := by
  refine zgoi (cc := cX9_isInput) (maxL := 2) (ret := (some .boolean)) (C0 := RX9) (lv0 := [(0, .ref h0), (1, .int p1)]) zpl_X9 rfl rfl rfl (Nat.le_of_ble_eq_true rfl) ?_
  intro p e s m below meth c A ls Q hx hb hr hts hown hlocks hml hP hK hD hA hS hl hQ
  unfold fn_X9_isInput at hfn
  refine lv_aload_n hx hb dX9_isInput_0 rfl (lv_at hl 0 rfl) ?_
  refine lv_iload_n hx hb dX9_isInput_1 rfl (lv_at hl 1 rfl) ?_
  obtain ⟨o_1, hqo_1, hfn⟩ := zb_s hfn
  refine zcVb (ci := 9) (rest := []) (pc' := 5) (ws' := [zV9 h0 v0_0 r0_1 r0_2 r0_3 r0_4 v0_5 r0_6 r0_7 r0_8, zV4 r0_6 v1_0 v1_1 r1_2 r1_3 r1_4 r1_5 r1_6 r1_7 r1_8 r1_9, zVi r1_3 k2 14 f2]) hP hK hD hS hA ⟨hx, hb, hml, hown, hts⟩ (zf_X9_hasNumber l dC dI h0 p1 v0_0 r0_1 r0_2 r0_3 r0_4 v0_5 r0_6 r0_7 r0_8 v1_0 v1_1 r1_2 r1_3 r1_4 r1_5 r1_6 r1_7 r1_8 r1_9 o_1 hqo_1 s.heap.size) (cwV 1 hts gX9_isInput_X9_hasNumber rfl rfl rfl zhd_X9_hasNumber ⟨Nat.le_of_ble_eq_true rfl, Nat.le_of_ble_eq_true rfl⟩) [0, 1] rfl (of_decide_eq_true rfl) [] rfl rfl rfl rfl hl.1 rfl (Nat.le_of_ble_eq_true rfl) dX9_isInput_2 ⟨Nat.le_of_ble_eq_true rfl, Nat.le_of_ble_eq_true rfl⟩ [some 0, some 1] (of_decide_eq_true rfl) (of_decide_eq_true rfl) rfl rfl rfl (fun H locs hw_4n hP hD hS => ?_)
  refine lv_if_eq (tgt := 24) hx hb dX9_isInput_5 (of_decide_eq_true rfl) (fun c_5 => ?_) (fun c_5 => ?_)
  · have hfn := (if_pos c_5).symm.trans hfn
    refine lv_iconst (v := 0) hx hb dX9_isInput_24 zci_0 ?_
    have ho := Option.some.inj hfn
    subst ho
    exact zrz hx hb hr rfl hK hP hD hS hQ ⟨rfl, zB0⟩ hlocks dX9_isInput_25
  have hfn := (if_neg c_5).symm.trans hfn
  refine lv_aload_n hx hb dX9_isInput_8 rfl (lv_at hl 0 rfl) ?_
  refine va_get (D := (dC, dI)) (ci := 9) (v := .ref r0_6) (C := RX9) (T := TX9) (N := 9) hx hb hts zn_X9_isInput_X9 hown hK hP 0 rfl rfl 6 (of_decide_eq_true rfl) (hts (.fieldLink RX9 27 "ShortEnough$Task" "numbers" "LShortEnough$Numbers;") zw_X9_isInput_570) (fun _ h9 => h9) rfl dX9_isInput_9 ?_
  refine va_get (D := (dC, dI)) (ci := 4) (v := .ref r1_3) (C := RX4) (T := TX4) (N := 10) hx hb hts zn_X9_isInput_X4 hown hK hP 1 rfl rfl 3 (of_decide_eq_true rfl) (hts (.fieldLink RX9 77 "ShortEnough$Numbers" "op" "[I") zw_X9_isInput_572) (fun _ h9 => h9) rfl dX9_isInput_12 ?_
  refine lv_iload_n hx hb dX9_isInput_15 rfl (lv_at hl 1 rfl) ?_
  obtain ⟨h_6, hfn⟩ := zg_s hfn
  refine va_iald hx hb hK hP 2 0 rfl rfl h_6 dX9_isInput_16 ?_
  refine lv_if_ne (tgt := 24) hx hb dX9_isInput_17 (of_decide_eq_true rfl) (fun c_7 => ?_) (fun c_7 => ?_)
  · have hfn := (if_neg c_7).symm.trans hfn
    refine lv_iconst (v := 0) hx hb dX9_isInput_24 zci_0 ?_
    have ho := Option.some.inj hfn
    subst ho
    exact zrz hx hb hr rfl hK hP hD hS hQ ⟨rfl, zB0⟩ hlocks dX9_isInput_25
  have hfn := (if_pos c_7).symm.trans hfn
  refine lv_iconst (v := 1) hx hb dX9_isInput_20 zci_1 ?_
  refine lv_goto (tgt := 25) hx hb dX9_isInput_21 (of_decide_eq_true rfl) ?_
  have ho := Option.some.inj hfn
  subst ho
  exact zrz hx hb hr rfl hK hP hD hS hQ ⟨rfl, zB1⟩ hlocks dX9_isInput_25
theorem zn_X9_isFree_X9 : ∀ w ∈ wsX90, w ∈ wsX9_isFree := fun _ h => List.mem_cons_of_mem _ (List.mem_append_left _ (List.mem_append_left _ (List.mem_append_right _ h)))
theorem zw_X9_isFree_574 : Cond.fieldLink RX9 34 "ShortEnough$Task" "groups" "LShortEnough$Groups;" ∈ wsX9_isFree := List.mem_of_getElem? (i := 1) (by decide +kernel)
theorem zn_X9_isFree_X2 : ∀ w ∈ wsX20, w ∈ wsX9_isFree := fun _ h => List.mem_cons_of_mem _ (List.mem_append_left _ (List.mem_append_right _ h))
theorem zw_X9_isFree_576 : Cond.fieldLink RX9 80 "ShortEnough$Groups" "of" "[I" ∈ wsX9_isFree := List.mem_of_getElem? (i := 2) (by decide +kernel)
set_option maxHeartbeats 4000000 in
set_option maxRecDepth 100000 in
theorem zf_X9_isFree (l : Launch) (dC : Nat → ClassId) (dI : Nat → Nat → Nat) (h0 : Nat) (p1 : Int32) (v0_0 : Int32) (r0_1 : Nat) (r0_2 : Nat) (r0_3 : Nat) (r0_4 : Nat) (v0_5 : Int32) (r0_6 : Nat) (r0_7 : Nat) (r0_8 : Nat) (v1_0 : Int32) (v1_1 : Int32) (r1_2 : Nat) (r1_3 : Nat) (r1_4 : Nat) (r1_5 : Nat) (r1_6 : Nat) (r1_7 : Nat) (r1_8 : Nat) (r1_9 : Nat) (v2_0 : Int32) (v2_1 : Int32) (v2_2 : Int32) (r2_3 : Nat) (r2_4 : Nat) (r2_5 : Nat) (k3 : Nat) (f3 : Nat → Int32) (k4 : Nat) (f4 : Nat → Int32) (o : Int32) (hfn : fn_X9_isFree p1 v1_0 v2_0 f3 f4 = some o) (sz : Nat) : zMi l yX9_isFree wsX9_isFree ({ frames := 1, cells := 0, slots := 0, locals := 21 }) (dC, dI) vwCl [.ref h0, .int p1] [zV9 h0 v0_0 r0_1 r0_2 r0_3 r0_4 v0_5 r0_6 r0_7 r0_8, zV4 r0_6 v1_0 v1_1 r1_2 r1_3 r1_4 r1_5 r1_6 r1_7 r1_8 r1_9, zV2 r0_7 v2_0 v2_1 v2_2 r2_3 r2_4 r2_5, zVi r2_3 k3 14 f3, zVi r2_4 k4 14 f4] [(k3, .int), (k4, .int)] (fun r _ => r = o ∧ narrow .boolean (.int o) = .int o) [zV9 h0 v0_0 r0_1 r0_2 r0_3 r0_4 v0_5 r0_6 r0_7 r0_8, zV4 r0_6 v1_0 v1_1 r1_2 r1_3 r1_4 r1_5 r1_6 r1_7 r1_8 r1_9, zV2 r0_7 v2_0 v2_1 v2_2 r2_3 r2_4 r2_5, zVi r2_3 k3 14 f3, zVi r2_4 k4 14 f4] [(k3, .int), (k4, .int)] sz := by
  refine zgoi (cc := cX9_isFree) (maxL := 2) (ret := (some .boolean)) (C0 := RX9) (lv0 := [(0, .ref h0), (1, .int p1)]) zpl_X9 rfl rfl rfl (Nat.le_of_ble_eq_true rfl) ?_
  intro p e s m below meth c A ls Q hx hb hr hts hown hlocks hml hP hK hD hA hS hl hQ
  unfold fn_X9_isFree at hfn
  refine lv_aload_n hx hb dX9_isFree_0 rfl (lv_at hl 0 rfl) ?_
  refine lv_iload_n hx hb dX9_isFree_1 rfl (lv_at hl 1 rfl) ?_
  obtain ⟨o_1, hqo_1, hfn⟩ := zb_s hfn
  refine zcVb (ci := 9) (rest := []) (pc' := 5) (ws' := [zV9 h0 v0_0 r0_1 r0_2 r0_3 r0_4 v0_5 r0_6 r0_7 r0_8, zV4 r0_6 v1_0 v1_1 r1_2 r1_3 r1_4 r1_5 r1_6 r1_7 r1_8 r1_9, zV2 r0_7 v2_0 v2_1 v2_2 r2_3 r2_4 r2_5, zVi r2_3 k3 14 f3, zVi r2_4 k4 14 f4]) hP hK hD hS hA ⟨hx, hb, hml, hown, hts⟩ (zf_X9_hasNumber l dC dI h0 p1 v0_0 r0_1 r0_2 r0_3 r0_4 v0_5 r0_6 r0_7 r0_8 v1_0 v1_1 r1_2 r1_3 r1_4 r1_5 r1_6 r1_7 r1_8 r1_9 o_1 hqo_1 s.heap.size) (cwV 1 hts gX9_isFree_X9_hasNumber rfl rfl rfl zhd_X9_hasNumber ⟨Nat.le_of_ble_eq_true rfl, Nat.le_of_ble_eq_true rfl⟩) [0, 1] rfl (of_decide_eq_true rfl) [] rfl rfl rfl rfl hl.1 rfl (Nat.le_of_ble_eq_true rfl) dX9_isFree_2 ⟨Nat.le_of_ble_eq_true rfl, Nat.le_of_ble_eq_true rfl⟩ [some 0, some 1] (of_decide_eq_true rfl) (of_decide_eq_true rfl) rfl rfl rfl (fun H locs hw_4n hP hD hS => ?_)
  refine lv_if_eq (tgt := 31) hx hb dX9_isFree_5 (of_decide_eq_true rfl) (fun c_5 => ?_) (fun c_5 => ?_)
  · have hfn := (if_pos c_5).symm.trans hfn
    refine lv_iconst (v := 0) hx hb dX9_isFree_31 zci_0 ?_
    have ho := Option.some.inj hfn
    subst ho
    exact zrz hx hb hr rfl hK hP hD hS hQ ⟨rfl, zB0⟩ hlocks dX9_isFree_32
  have hfn := (if_neg c_5).symm.trans hfn
  refine lv_aload_n hx hb dX9_isFree_8 rfl (lv_at hl 0 rfl) ?_
  refine va_get (D := (dC, dI)) (ci := 9) (v := .ref r0_7) (C := RX9) (T := TX9) (N := 9) hx hb hts zn_X9_isFree_X9 hown hK hP 0 rfl rfl 7 (of_decide_eq_true rfl) (hts (.fieldLink RX9 34 "ShortEnough$Task" "groups" "LShortEnough$Groups;") zw_X9_isFree_574) (fun _ h9 => h9) rfl dX9_isFree_9 ?_
  refine lv_aload_n hx hb dX9_isFree_12 rfl (lv_at hl 0 rfl) ?_
  refine va_get (D := (dC, dI)) (ci := 9) (v := .ref r0_7) (C := RX9) (T := TX9) (N := 9) hx hb hts zn_X9_isFree_X9 hown hK hP 0 rfl rfl 7 (of_decide_eq_true rfl) (hts (.fieldLink RX9 34 "ShortEnough$Task" "groups" "LShortEnough$Groups;") zw_X9_isFree_574) (fun _ h9 => h9) rfl dX9_isFree_13 ?_
  refine va_get (D := (dC, dI)) (ci := 2) (v := .ref r2_3) (C := RX2) (T := TX2) (N := 6) hx hb hts zn_X9_isFree_X2 hown hK hP 2 rfl rfl 3 (of_decide_eq_true rfl) (hts (.fieldLink RX9 80 "ShortEnough$Groups" "of" "[I") zw_X9_isFree_576) (fun _ h9 => h9) rfl dX9_isFree_16 ?_
  refine lv_iload_n hx hb dX9_isFree_19 rfl (lv_at hl 1 rfl) ?_
  obtain ⟨h_6, hfn⟩ := zg_s hfn
  refine va_iald hx hb hK hP 3 0 rfl rfl h_6 dX9_isFree_20 ?_
  obtain ⟨o_7, hqo_7, hfn⟩ := zb_s hfn
  refine zcVb (ci := 2) (rest := []) (pc' := 24) (ws' := [zV9 h0 v0_0 r0_1 r0_2 r0_3 r0_4 v0_5 r0_6 r0_7 r0_8, zV4 r0_6 v1_0 v1_1 r1_2 r1_3 r1_4 r1_5 r1_6 r1_7 r1_8 r1_9, zV2 r0_7 v2_0 v2_1 v2_2 r2_3 r2_4 r2_5, zVi r2_3 k3 14 f3, zVi r2_4 k4 14 f4]) hP hK hD hS hA ⟨hx, hb, hml, hown, hts⟩ (zf_X2_isFree l dC dI r0_7 (f3 p1.toNatClampNeg) v2_0 v2_1 v2_2 r2_3 r2_4 r2_5 k4 f4 o_7 hqo_7 H.size) (cwV 1 hts gX9_isFree_X2_isFree rfl rfl rfl zhd_X2_isFree ⟨Nat.le_of_ble_eq_true rfl, Nat.le_of_ble_eq_true rfl⟩) [2, 4] rfl (of_decide_eq_true rfl) [1] rfl rfl rfl rfl hl.1 rfl (Nat.le_of_ble_eq_true rfl) dX9_isFree_21 ⟨Nat.le_of_ble_eq_true rfl, Nat.le_of_ble_eq_true rfl⟩ [none, none, some 0, none, some 1] (of_decide_eq_true rfl) (of_decide_eq_true rfl) rfl rfl rfl (fun H locs hw_10n hP hD hS => ?_)
  refine lv_if_eq (tgt := 31) hx hb dX9_isFree_24 (of_decide_eq_true rfl) (fun c_11 => ?_) (fun c_11 => ?_)
  · have hfn := (if_pos c_11).symm.trans hfn
    refine lv_iconst (v := 0) hx hb dX9_isFree_31 zci_0 ?_
    have ho := Option.some.inj hfn
    subst ho
    exact zrz hx hb hr rfl hK hP hD hS hQ ⟨rfl, zB0⟩ hlocks dX9_isFree_32
  have hfn := (if_neg c_11).symm.trans hfn
  refine lv_iconst (v := 1) hx hb dX9_isFree_27 zci_1 ?_
  refine lv_goto (tgt := 32) hx hb dX9_isFree_28 (of_decide_eq_true rfl) ?_
  have ho := Option.some.inj hfn
  subst ho
  exact zrz hx hb hr rfl hK hP hD hS hQ ⟨rfl, zB1⟩ hlocks dX9_isFree_32
theorem zn_X11_putBytes_X11 : ∀ w ∈ wsX110, w ∈ wsX11_putBytes := fun _ h => List.mem_cons_of_mem _ (List.mem_append_right _ h)
theorem zw_X11_putBytes_580 : Cond.fieldLink RX11 89 "ShortEnough" "tapeLength" "I" ∈ wsX11_putBytes := List.mem_of_getElem? (i := 1) (by decide +kernel)
theorem zw_X11_putBytes_581 : Cond.fieldLink RX11 9 "ShortEnough" "tape" "[B" ∈ wsX11_putBytes := List.mem_of_getElem? (i := 2) (by decide +kernel)
set_option maxHeartbeats 4000000 in
set_option maxRecDepth 100000 in
theorem zf_X11_putBytes (l : Launch) (dC : Nat → ClassId) (dI : Nat → Nat → Nat) (h0 : Nat) (p1 : Int32) (r0_0 : Nat) (v0_1 : Int32) (r0_2 : Nat) (r0_3 : Nat) (r0_4 : Nat) (r0_5 : Nat) (r0_6 : Nat) (r0_7 : Nat) (r0_8 : Nat) (r0_9 : Nat) (r0_10 : Nat) (r0_11 : Nat) (r0_12 : Nat) (r0_13 : Nat) (r0_14 : Nat) (v0_15 : Int32) (k1 : Nat) (f1 : Nat → Int32) (o : Int32 × (Nat → Int32)) (hfn : fn_X11_putBytes p1 v0_1 f1 = some o) (sz : Nat) : zMv l yX11_putBytes wsX11_putBytes ({ frames := 0, cells := 0, slots := 0, locals := 0 }) (dC, dI) vwCl [.ref h0, .int p1] [zV11 h0 r0_0 v0_1 r0_2 r0_3 r0_4 r0_5 r0_6 r0_7 r0_8 r0_9 r0_10 r0_11 r0_12 r0_13 r0_14 v0_15, zVi r0_0 k1 1200 f1] [(k1, .byte)] (fun _ => True) [zV11 h0 r0_0 o.1 r0_2 r0_3 r0_4 r0_5 r0_6 r0_7 r0_8 r0_9 r0_10 r0_11 r0_12 r0_13 r0_14 v0_15, zVi r0_0 k1 1200 o.2] [(k1, .byte)] sz := by
  refine zgov (cc := cX11_putBytes) (maxL := 3) (ret := none) (C0 := RX11) (lv0 := [(0, .ref h0), (1, .int p1)]) zpl_X11 rfl rfl rfl (Nat.le_of_ble_eq_true rfl) ?_
  intro p e s m below meth c A ls Q hx hb hr hts hown hlocks hml hP hK hD hA hS hl hQ
  unfold fn_X11_putBytes at hfn
  refine lv_bipush (v := 24) hx hb dX11_putBytes_0 zcb_24 ?_
  refine lv_istore_n (lv' := [(2, .int 24), (0, .ref h0), (1, .int p1)]) hx hb dX11_putBytes_2 rfl hl (of_decide_eq_true rfl) rfl (fun ls hl => ?_)
  obtain ⟨bd_1, ebd_1, hfn⟩ := zl_g hfn
  have lp_1 : ∀ (n : Nat) (s_1 : Int32 × Int32 × (Nat → Int32)) (H : Heap) (locs : List Loc) (ls : Array Slot), zl bd_1 n s_1 = some o → va_P (dC, dI) vwCl [zV11 h0 r0_0 s_1.2.1 r0_2 r0_3 r0_4 r0_5 r0_6 r0_7 r0_8 r0_9 r0_10 r0_11 r0_12 r0_13 r0_14 v0_15, zVi r0_0 k1 1200 s_1.2.2] H → va_D A [zV11 h0 r0_0 s_1.2.1 r0_2 r0_3 r0_4 r0_5 r0_6 r0_7 r0_8 r0_9 r0_10 r0_11 r0_12 r0_13 r0_14 v0_15, zVi r0_0 k1 1200 s_1.2.2] → va_S A s.heap H locs → lv_has ls 3 [(2, .int s_1.1), (0, .ref h0), (1, .int p1)] → W p l e (headSpec wsX11_putBytes ({ frames := 0, cells := 0, slots := 0, locals := 0 })).room s m ([.ref h0, .int p1] : List Value).toArray below meth c H locs 0 0 Q (F0 m 3 ls []) := by
    intro n
    induction n with
    | zero => exact fun _ _ _ _ hfn => (zl_0 hfn).elim
    | succ n ih_1 =>
      intro s_1 H locs ls hfn hP hD hS hl
      have hfn := zl_s ebd_1 hfn
      refine lv_iload_n hx hb dX11_putBytes_3 rfl (lv_at hl 0 rfl) ?_
      refine lv_if_lt (tgt := 46) hx hb dX11_putBytes_4 (of_decide_eq_true rfl) (fun c_2 => ?_) (fun c_2 => ?_)
      · have hfn := (if_pos c_2).symm.trans hfn
        have ho := Option.some.inj hfn
        subst ho
        exact zrv hx hb hr hK hP hD hS hQ trivial hlocks dX11_putBytes_46
      have hfn := (if_neg c_2).symm.trans hfn
      refine lv_aload_n hx hb dX11_putBytes_7 rfl (lv_at hl 1 rfl) ?_
      refine va_get (D := (dC, dI)) (ci := 11) (v := .int s_1.2.1) (C := RX11) (T := TX11) (N := 16) hx hb hts zn_X11_putBytes_X11 hown hK hP 0 rfl rfl 1 (of_decide_eq_true rfl) (hts (.fieldLink RX11 89 "ShortEnough" "tapeLength" "I") zw_X11_putBytes_580) (fun _ h9 => h9) rfl dX11_putBytes_8 ?_
      refine lv_sipush (v := 1200) hx hb dX11_putBytes_11 zcs_1200 ?_
      refine lv_icmp_ge (tgt := 40) hx hb dX11_putBytes_14 (of_decide_eq_true rfl) (fun c_3 => ?_) (fun c_3 => ?_)
      · have hfn := (if_pos c_3).symm.trans hfn
        refine lv_iinc (v := (s_1.1 + (-8))) (lv' := [(2, .int (s_1.1 + (-8))), (0, .ref h0), (1, .int p1)]) hx hb dX11_putBytes_40 hl (k := 0) rfl rfl (of_decide_eq_true rfl) rfl (fun ls hl => ?_)
        refine lv_goto (tgt := 3) hx hb dX11_putBytes_43 (of_decide_eq_true rfl) ?_
        exact ih_1 ((s_1.1 + (-8)), s_1.2.1, s_1.2.2) H locs ls hfn hP hD hS (lv_sub hl [0, 1, 2] rfl)
      have hfn := (if_neg c_3).symm.trans hfn
      refine lv_aload_n hx hb dX11_putBytes_17 rfl (lv_at hl 1 rfl) ?_
      refine va_get (D := (dC, dI)) (ci := 11) (v := .ref r0_0) (C := RX11) (T := TX11) (N := 16) hx hb hts zn_X11_putBytes_X11 hown hK hP 0 rfl rfl 0 (of_decide_eq_true rfl) (hts (.fieldLink RX11 9 "ShortEnough" "tape" "[B") zw_X11_putBytes_581) (fun _ h9 => h9) rfl dX11_putBytes_18 ?_
      refine lv_aload_n hx hb dX11_putBytes_21 rfl (lv_at hl 1 rfl) ?_
      refine va_get (D := (dC, dI)) (ci := 11) (v := .int s_1.2.1) (C := RX11) (T := TX11) (N := 16) hx hb hts zn_X11_putBytes_X11 hown hK hP 0 rfl rfl 1 (of_decide_eq_true rfl) (hts (.fieldLink RX11 89 "ShortEnough" "tapeLength" "I") zw_X11_putBytes_580) (fun _ h9 => h9) rfl dX11_putBytes_22 ?_
      refine lv_iload_n hx hb dX11_putBytes_25 rfl (lv_at hl 2 rfl) ?_
      refine lv_iload_n hx hb dX11_putBytes_26 rfl (lv_at hl 0 rfl) ?_
      refine lv_ishr hx hb dX11_putBytes_27 ?_
      refine lv_i2b (v := (p1 >>> (s_1.1 &&& 31)).toInt8.toInt32) hx hb dX11_putBytes_28 rfl ?_
      obtain ⟨h_4, hfn⟩ := zg_s hfn
      refine va_bast hx hb hK hP hD hS 1 0 rfl rfl h_4 dX11_putBytes_29 (fun H locs hP hD hS => ?_)
      obtain ⟨g_5, eg_5⟩ : ∃ g : Nat → Int32, g = (upd s_1.2.2 s_1.2.1.toNatClampNeg (vp_nar .byte (p1 >>> (s_1.1 &&& 31)).toInt8.toInt32)) := ⟨_, rfl⟩
      have hfn := zn_s hfn eg_5
      have hP : va_P (dC, dI) vwCl [zV11 h0 r0_0 s_1.2.1 r0_2 r0_3 r0_4 r0_5 r0_6 r0_7 r0_8 r0_9 r0_10 r0_11 r0_12 r0_13 r0_14 v0_15, zVi r0_0 k1 1200 g_5] H := by rw [eg_5]; exact hP
      have hD : va_D A [zV11 h0 r0_0 s_1.2.1 r0_2 r0_3 r0_4 r0_5 r0_6 r0_7 r0_8 r0_9 r0_10 r0_11 r0_12 r0_13 r0_14 v0_15, zVi r0_0 k1 1200 g_5] := by rw [eg_5]; exact hD
      refine lv_aload_n hx hb dX11_putBytes_30 rfl (lv_at hl 1 rfl) ?_
      refine lv_dup hx hb dX11_putBytes_31 rfl ?_
      refine va_get (D := (dC, dI)) (ci := 11) (v := .int s_1.2.1) (C := RX11) (T := TX11) (N := 16) hx hb hts zn_X11_putBytes_X11 hown hK hP 0 rfl rfl 1 (of_decide_eq_true rfl) (hts (.fieldLink RX11 89 "ShortEnough" "tapeLength" "I") zw_X11_putBytes_580) (fun _ h9 => h9) rfl dX11_putBytes_32 ?_
      refine lv_iconst (v := 1) hx hb dX11_putBytes_35 zci_1 ?_
      refine lv_iadd hx hb dX11_putBytes_36 ?_
      refine va_put (D := (dC, dI)) (ci := 11) (v := .int (s_1.2.1 + 1)) (ty := .int) (C := RX11) (T := TX11) (N := 16) hx hb hts zn_X11_putBytes_X11 tyX11 tyX11_ok nmX11 hown hK hP hD hS 0 rfl rfl 1 (of_decide_eq_true rfl) (hts (.fieldLink RX11 89 "ShortEnough" "tapeLength" "I") zw_X11_putBytes_580) (fun _ h9 => h9) rfl (tyX11_ok 1 (of_decide_eq_true rfl)) rfl rfl (Nat.le_of_ble_eq_true rfl) dX11_putBytes_37 (fun H locs hP hD hS => ?_)
      have hP : va_P (dC, dI) vwCl [zV11 h0 r0_0 (s_1.2.1 + 1) r0_2 r0_3 r0_4 r0_5 r0_6 r0_7 r0_8 r0_9 r0_10 r0_11 r0_12 r0_13 r0_14 v0_15, zVi r0_0 k1 1200 g_5] H := hP
      have hD := zDW hD hP rfl
      refine lv_iinc (v := (s_1.1 + (-8))) (lv' := [(2, .int (s_1.1 + (-8))), (0, .ref h0), (1, .int p1)]) hx hb dX11_putBytes_40 hl (k := 0) rfl rfl (of_decide_eq_true rfl) rfl (fun ls hl => ?_)
      refine lv_goto (tgt := 3) hx hb dX11_putBytes_43 (of_decide_eq_true rfl) ?_
      exact ih_1 ((s_1.1 + (-8)), (s_1.2.1 + 1), g_5) H locs ls hfn hP hD hS (lv_sub hl [0, 1, 2] rfl)
  exact lp_1 _ (24, v0_1, f1) s.heap [] ls hfn hP hD hS (lv_sub hl [0, 1, 2] rfl)
theorem zn_X11_refuse_X11 : ∀ w ∈ wsX110, w ∈ wsX11_refuse := fun _ h => List.mem_cons_of_mem _ (List.mem_append_right _ h)
theorem zw_X11_refuse_583 : Cond.fieldLink RX11 13 "ShortEnough" "refused" "[I" ∈ wsX11_refuse := List.mem_of_getElem? (i := 1) (by decide +kernel)
set_option maxHeartbeats 4000000 in
set_option maxRecDepth 100000 in
theorem zf_X11_refuse (l : Launch) (dC : Nat → ClassId) (dI : Nat → Nat → Nat) (h0 : Nat) (p1 : Int32) (r0_0 : Nat) (v0_1 : Int32) (r0_2 : Nat) (r0_3 : Nat) (r0_4 : Nat) (r0_5 : Nat) (r0_6 : Nat) (r0_7 : Nat) (r0_8 : Nat) (r0_9 : Nat) (r0_10 : Nat) (r0_11 : Nat) (r0_12 : Nat) (r0_13 : Nat) (r0_14 : Nat) (v0_15 : Int32) (k1 : Nat) (f1 : Nat → Int32) (o : Int32 × (Nat → Int32)) (hfn : fn_X11_refuse p1 f1 = some o) (sz : Nat) : zMi l yX11_refuse wsX11_refuse ({ frames := 0, cells := 0, slots := 0, locals := 0 }) (dC, dI) vwCl [.ref h0, .int p1] [zV11 h0 r0_0 v0_1 r0_2 r0_3 r0_4 r0_5 r0_6 r0_7 r0_8 r0_9 r0_10 r0_11 r0_12 r0_13 r0_14 v0_15, zVi r0_2 k1 5 f1] [(k1, .int)] (fun r _ => r = o.1) [zV11 h0 r0_0 v0_1 r0_2 r0_3 r0_4 r0_5 r0_6 r0_7 r0_8 r0_9 r0_10 r0_11 r0_12 r0_13 r0_14 v0_15, zVi r0_2 k1 5 o.2] [(k1, .int)] sz := by
  refine zgoi (cc := cX11_refuse) (maxL := 2) (ret := (some .int)) (C0 := RX11) (lv0 := [(0, .ref h0), (1, .int p1)]) zpl_X11 rfl rfl rfl (Nat.le_of_ble_eq_true rfl) ?_
  intro p e s m below meth c A ls Q hx hb hr hts hown hlocks hml hP hK hD hA hS hl hQ
  unfold fn_X11_refuse at hfn
  refine lv_iload_n hx hb dX11_refuse_0 rfl (lv_at hl 1 rfl) ?_
  refine lv_if_lt (tgt := 19) hx hb dX11_refuse_1 (of_decide_eq_true rfl) (fun c_1 => ?_) (fun c_1 => ?_)
  · have hfn := (if_pos c_1).symm.trans hfn
    refine lv_iconst (v := (-1)) hx hb dX11_refuse_19 zci_m1 ?_
    have ho := Option.some.inj hfn
    subst ho
    exact zri hx hb hr hK hP hD hS hQ rfl hlocks dX11_refuse_20
  have hfn := (if_neg c_1).symm.trans hfn
  refine lv_iload_n hx hb dX11_refuse_4 rfl (lv_at hl 1 rfl) ?_
  refine lv_iconst (v := 5) hx hb dX11_refuse_5 zci_5 ?_
  refine lv_icmp_ge (tgt := 19) hx hb dX11_refuse_6 (of_decide_eq_true rfl) (fun c_2 => ?_) (fun c_2 => ?_)
  · have hfn := (if_pos c_2).symm.trans hfn
    refine lv_iconst (v := (-1)) hx hb dX11_refuse_19 zci_m1 ?_
    have ho := Option.some.inj hfn
    subst ho
    exact zri hx hb hr hK hP hD hS hQ rfl hlocks dX11_refuse_20
  have hfn := (if_neg c_2).symm.trans hfn
  refine lv_aload_n hx hb dX11_refuse_9 rfl (lv_at hl 0 rfl) ?_
  refine va_get (D := (dC, dI)) (ci := 11) (v := .ref r0_2) (C := RX11) (T := TX11) (N := 16) hx hb hts zn_X11_refuse_X11 hown hK hP 0 rfl rfl 2 (of_decide_eq_true rfl) (hts (.fieldLink RX11 13 "ShortEnough" "refused" "[I") zw_X11_refuse_583) (fun _ h9 => h9) rfl dX11_refuse_10 ?_
  refine lv_iload_n hx hb dX11_refuse_13 rfl (lv_at hl 1 rfl) ?_
  refine lv_dup2_11 hx hb dX11_refuse_14 rfl rfl ?_
  obtain ⟨h_3, hfn⟩ := zg_s hfn
  refine va_iald hx hb hK hP 1 0 rfl rfl h_3 dX11_refuse_15 ?_
  refine lv_iconst (v := 1) hx hb dX11_refuse_16 zci_1 ?_
  refine lv_iadd hx hb dX11_refuse_17 ?_
  refine va_iast hx hb hK hP hD hS 1 0 rfl rfl h_3 dX11_refuse_18 (fun H locs hP hD hS => ?_)
  have hP : va_P (dC, dI) vwCl [zV11 h0 r0_0 v0_1 r0_2 r0_3 r0_4 r0_5 r0_6 r0_7 r0_8 r0_9 r0_10 r0_11 r0_12 r0_13 r0_14 v0_15, zVi r0_2 k1 5 (upd f1 p1.toNatClampNeg ((f1 p1.toNatClampNeg) + 1))] H := hP
  have hD := zDW hD hP rfl
  refine lv_iconst (v := (-1)) hx hb dX11_refuse_19 zci_m1 ?_
  have ho := Option.some.inj hfn
  subst ho
  exact zri hx hb hr hK hP hD hS hQ rfl hlocks dX11_refuse_20
theorem zn_X11_feed_X11 : ∀ w ∈ wsX110, w ∈ wsX11_feed := fun _ h => List.mem_cons_of_mem _ (List.mem_append_right _ h)
theorem zw_X11_feed_578 : Cond.fieldLink RX11 89 "ShortEnough" "tapeLength" "I" ∈ wsX11_feed := List.mem_of_getElem? (i := 1) (by decide +kernel)
set_option maxHeartbeats 4000000 in
set_option maxRecDepth 100000 in
theorem zf_X11_feed (l : Launch) (dC : Nat → ClassId) (dI : Nat → Nat → Nat) (h0 : Nat) (p1 : Int32) (p2 : Int32) (p3 : Int32) (p4 : Int32) (p5 : Int32) (r0_0 : Nat) (v0_1 : Int32) (r0_2 : Nat) (r0_3 : Nat) (r0_4 : Nat) (r0_5 : Nat) (r0_6 : Nat) (r0_7 : Nat) (r0_8 : Nat) (r0_9 : Nat) (r0_10 : Nat) (r0_11 : Nat) (r0_12 : Nat) (r0_13 : Nat) (r0_14 : Nat) (v0_15 : Int32) (k1 : Nat) (f1 : Nat → Int32) (k2 : Nat) (f2 : Nat → Int32) (o : Int32 × Int32 × (Nat → Int32) × (Nat → Int32)) (hfn : fn_X11_feed p1 p2 p3 p4 p5 v0_1 f1 f2 = some o) (sz : Nat) : zMi l yX11_feed wsX11_feed ({ frames := 1, cells := 0, slots := 0, locals := 22 }) (dC, dI) vwCl [.ref h0, .int p1, .int p2, .int p3, .int p4, .int p5] [zV11 h0 r0_0 v0_1 r0_2 r0_3 r0_4 r0_5 r0_6 r0_7 r0_8 r0_9 r0_10 r0_11 r0_12 r0_13 r0_14 v0_15, zVi r0_0 k1 1200 f1, zVi r0_2 k2 5 f2] [(k1, .byte), (k2, .int)] (fun r _ => r = o.1) [zV11 h0 r0_0 o.2.1 r0_2 r0_3 r0_4 r0_5 r0_6 r0_7 r0_8 r0_9 r0_10 r0_11 r0_12 r0_13 r0_14 v0_15, zVi r0_0 k1 1200 o.2.2.1, zVi r0_2 k2 5 o.2.2.2] [(k1, .byte), (k2, .int)] sz := by
  refine zgoi (cc := cX11_feed) (maxL := 6) (ret := (some .int)) (C0 := RX11) (lv0 := [(0, .ref h0), (1, .int p1), (2, .int p2), (3, .int p3), (4, .int p4), (5, .int p5)]) zpl_X11 rfl rfl rfl (Nat.le_of_ble_eq_true rfl) ?_
  intro p e s m below meth c A ls Q hx hb hr hts hown hlocks hml hP hK hD hA hS hl hQ
  unfold fn_X11_feed at hfn
  refine lv_aload_n hx hb dX11_feed_0 rfl (lv_at hl 0 rfl) ?_
  refine va_get (D := (dC, dI)) (ci := 11) (v := .int v0_1) (C := RX11) (T := TX11) (N := 16) hx hb hts zn_X11_feed_X11 hown hK hP 0 rfl rfl 1 (of_decide_eq_true rfl) (hts (.fieldLink RX11 89 "ShortEnough" "tapeLength" "I") zw_X11_feed_578) (fun _ h9 => h9) rfl dX11_feed_1 ?_
  refine lv_sipush (v := 1180) hx hb dX11_feed_4 zcs_1180 ?_
  refine lv_icmp_le (tgt := 16) hx hb dX11_feed_7 (of_decide_eq_true rfl) (fun c_1 => ?_) (fun c_1 => ?_)
  · have hfn := (if_pos c_1).symm.trans hfn
    refine lv_aload_n hx hb dX11_feed_16 rfl (lv_at hl 0 rfl) ?_
    refine lv_iload_n hx hb dX11_feed_17 rfl (lv_at hl 1 rfl) ?_
    obtain ⟨o_2, hqo_2, hfn⟩ := zb_s hfn
    refine zcVv (ci := 11) (rest := []) (pc' := 21) (ws' := [zV11 h0 r0_0 o_2.1 r0_2 r0_3 r0_4 r0_5 r0_6 r0_7 r0_8 r0_9 r0_10 r0_11 r0_12 r0_13 r0_14 v0_15, zVi r0_0 k1 1200 o_2.2, zVi r0_2 k2 5 f2]) hP hK hD hS hA ⟨hx, hb, hml, hown, hts⟩ (zf_X11_putBytes l dC dI h0 p1 r0_0 v0_1 r0_2 r0_3 r0_4 r0_5 r0_6 r0_7 r0_8 r0_9 r0_10 r0_11 r0_12 r0_13 r0_14 v0_15 k1 f1 o_2 hqo_2 s.heap.size) (cwV 1 hts gX11_feed_X11_putBytes rfl rfl rfl zhd_X11_putBytes ⟨Nat.le_of_ble_eq_true rfl, Nat.le_of_ble_eq_true rfl⟩) [0, 1] rfl (of_decide_eq_true rfl) [0] rfl rfl rfl rfl hl.1 rfl (Nat.le_of_ble_eq_true rfl) dX11_feed_18 ⟨Nat.le_of_ble_eq_true rfl, Nat.le_of_ble_eq_true rfl⟩ [some 0, some 1] (of_decide_eq_true rfl) (of_decide_eq_true rfl) rfl rfl rfl (fun H locs hP hD hS => ?_)
    refine lv_aload_n hx hb dX11_feed_21 rfl (lv_at hl 0 rfl) ?_
    refine lv_iload_n hx hb dX11_feed_22 rfl (lv_at hl 2 rfl) ?_
    obtain ⟨o_6, hqo_6, hfn⟩ := zb_s hfn
    refine zcVv (ci := 11) (rest := []) (pc' := 26) (ws' := [zV11 h0 r0_0 o_6.1 r0_2 r0_3 r0_4 r0_5 r0_6 r0_7 r0_8 r0_9 r0_10 r0_11 r0_12 r0_13 r0_14 v0_15, zVi r0_0 k1 1200 o_6.2, zVi r0_2 k2 5 f2]) hP hK hD hS hA ⟨hx, hb, hml, hown, hts⟩ (zf_X11_putBytes l dC dI h0 p2 r0_0 o_2.1 r0_2 r0_3 r0_4 r0_5 r0_6 r0_7 r0_8 r0_9 r0_10 r0_11 r0_12 r0_13 r0_14 v0_15 k1 o_2.2 o_6 hqo_6 H.size) (cwV 1 hts gX11_feed_X11_putBytes rfl rfl rfl zhd_X11_putBytes ⟨Nat.le_of_ble_eq_true rfl, Nat.le_of_ble_eq_true rfl⟩) [0, 1] rfl (of_decide_eq_true rfl) [0] rfl rfl rfl rfl hl.1 rfl (Nat.le_of_ble_eq_true rfl) dX11_feed_23 ⟨Nat.le_of_ble_eq_true rfl, Nat.le_of_ble_eq_true rfl⟩ [some 0, some 1] (of_decide_eq_true rfl) (of_decide_eq_true rfl) rfl rfl rfl (fun H locs hP hD hS => ?_)
    refine lv_aload_n hx hb dX11_feed_26 rfl (lv_at hl 0 rfl) ?_
    refine lv_iload_n hx hb dX11_feed_27 rfl (lv_at hl 3 rfl) ?_
    obtain ⟨o_10, hqo_10, hfn⟩ := zb_s hfn
    refine zcVv (ci := 11) (rest := []) (pc' := 31) (ws' := [zV11 h0 r0_0 o_10.1 r0_2 r0_3 r0_4 r0_5 r0_6 r0_7 r0_8 r0_9 r0_10 r0_11 r0_12 r0_13 r0_14 v0_15, zVi r0_0 k1 1200 o_10.2, zVi r0_2 k2 5 f2]) hP hK hD hS hA ⟨hx, hb, hml, hown, hts⟩ (zf_X11_putBytes l dC dI h0 p3 r0_0 o_6.1 r0_2 r0_3 r0_4 r0_5 r0_6 r0_7 r0_8 r0_9 r0_10 r0_11 r0_12 r0_13 r0_14 v0_15 k1 o_6.2 o_10 hqo_10 H.size) (cwV 1 hts gX11_feed_X11_putBytes rfl rfl rfl zhd_X11_putBytes ⟨Nat.le_of_ble_eq_true rfl, Nat.le_of_ble_eq_true rfl⟩) [0, 1] rfl (of_decide_eq_true rfl) [0] rfl rfl rfl rfl hl.1 rfl (Nat.le_of_ble_eq_true rfl) dX11_feed_28 ⟨Nat.le_of_ble_eq_true rfl, Nat.le_of_ble_eq_true rfl⟩ [some 0, some 1] (of_decide_eq_true rfl) (of_decide_eq_true rfl) rfl rfl rfl (fun H locs hP hD hS => ?_)
    refine lv_aload_n hx hb dX11_feed_31 rfl (lv_at hl 0 rfl) ?_
    refine lv_iload hx hb dX11_feed_32 (lv_at hl 4 rfl) ?_
    obtain ⟨o_14, hqo_14, hfn⟩ := zb_s hfn
    refine zcVv (ci := 11) (rest := []) (pc' := 37) (ws' := [zV11 h0 r0_0 o_14.1 r0_2 r0_3 r0_4 r0_5 r0_6 r0_7 r0_8 r0_9 r0_10 r0_11 r0_12 r0_13 r0_14 v0_15, zVi r0_0 k1 1200 o_14.2, zVi r0_2 k2 5 f2]) hP hK hD hS hA ⟨hx, hb, hml, hown, hts⟩ (zf_X11_putBytes l dC dI h0 p4 r0_0 o_10.1 r0_2 r0_3 r0_4 r0_5 r0_6 r0_7 r0_8 r0_9 r0_10 r0_11 r0_12 r0_13 r0_14 v0_15 k1 o_10.2 o_14 hqo_14 H.size) (cwV 1 hts gX11_feed_X11_putBytes rfl rfl rfl zhd_X11_putBytes ⟨Nat.le_of_ble_eq_true rfl, Nat.le_of_ble_eq_true rfl⟩) [0, 1] rfl (of_decide_eq_true rfl) [0] rfl rfl rfl rfl hl.1 rfl (Nat.le_of_ble_eq_true rfl) dX11_feed_34 ⟨Nat.le_of_ble_eq_true rfl, Nat.le_of_ble_eq_true rfl⟩ [some 0, some 1] (of_decide_eq_true rfl) (of_decide_eq_true rfl) rfl rfl rfl (fun H locs hP hD hS => ?_)
    refine lv_aload_n hx hb dX11_feed_37 rfl (lv_at hl 0 rfl) ?_
    refine lv_iload hx hb dX11_feed_38 (lv_at hl 5 rfl) ?_
    obtain ⟨o_18, hqo_18, hfn⟩ := zb_s hfn
    refine zcVv (ci := 11) (rest := []) (pc' := 43) (ws' := [zV11 h0 r0_0 o_18.1 r0_2 r0_3 r0_4 r0_5 r0_6 r0_7 r0_8 r0_9 r0_10 r0_11 r0_12 r0_13 r0_14 v0_15, zVi r0_0 k1 1200 o_18.2, zVi r0_2 k2 5 f2]) hP hK hD hS hA ⟨hx, hb, hml, hown, hts⟩ (zf_X11_putBytes l dC dI h0 p5 r0_0 o_14.1 r0_2 r0_3 r0_4 r0_5 r0_6 r0_7 r0_8 r0_9 r0_10 r0_11 r0_12 r0_13 r0_14 v0_15 k1 o_14.2 o_18 hqo_18 H.size) (cwV 1 hts gX11_feed_X11_putBytes rfl rfl rfl zhd_X11_putBytes ⟨Nat.le_of_ble_eq_true rfl, Nat.le_of_ble_eq_true rfl⟩) [0, 1] rfl (of_decide_eq_true rfl) [0] rfl rfl rfl rfl hl.1 rfl (Nat.le_of_ble_eq_true rfl) dX11_feed_40 ⟨Nat.le_of_ble_eq_true rfl, Nat.le_of_ble_eq_true rfl⟩ [some 0, some 1] (of_decide_eq_true rfl) (of_decide_eq_true rfl) rfl rfl rfl (fun H locs hP hD hS => ?_)
    refine lv_aload_n hx hb dX11_feed_43 rfl (lv_at hl 0 rfl) ?_
    refine va_get (D := (dC, dI)) (ci := 11) (v := .int o_18.1) (C := RX11) (T := TX11) (N := 16) hx hb hts zn_X11_feed_X11 hown hK hP 0 rfl rfl 1 (of_decide_eq_true rfl) (hts (.fieldLink RX11 89 "ShortEnough" "tapeLength" "I") zw_X11_feed_578) (fun _ h9 => h9) rfl dX11_feed_44 ?_
    have ho := Option.some.inj hfn
    subst ho
    exact zri hx hb hr hK hP hD hS hQ rfl hlocks dX11_feed_47
  have hfn := (if_neg c_1).symm.trans hfn
  refine lv_aload_n hx hb dX11_feed_10 rfl (lv_at hl 0 rfl) ?_
  refine lv_iconst (v := 0) hx hb dX11_feed_11 zci_0 ?_
  obtain ⟨o_22, hqo_22, hfn⟩ := zb_s hfn
  refine zcVi (ci := 11) (rest := []) (pc' := 15) (ws' := [zV11 h0 r0_0 v0_1 r0_2 r0_3 r0_4 r0_5 r0_6 r0_7 r0_8 r0_9 r0_10 r0_11 r0_12 r0_13 r0_14 v0_15, zVi r0_0 k1 1200 f1, zVi r0_2 k2 5 o_22.2]) hP hK hD hS hA ⟨hx, hb, hml, hown, hts⟩ (zf_X11_refuse l dC dI h0 0 r0_0 v0_1 r0_2 r0_3 r0_4 r0_5 r0_6 r0_7 r0_8 r0_9 r0_10 r0_11 r0_12 r0_13 r0_14 v0_15 k2 f2 o_22 hqo_22 s.heap.size) (cwV 1 hts gX11_feed_X11_refuse rfl rfl rfl zhd_X11_refuse ⟨Nat.le_of_ble_eq_true rfl, Nat.le_of_ble_eq_true rfl⟩) [0, 2] rfl (of_decide_eq_true rfl) [1] rfl rfl rfl rfl hl.1 rfl (Nat.le_of_ble_eq_true rfl) dX11_feed_12 ⟨Nat.le_of_ble_eq_true rfl, Nat.le_of_ble_eq_true rfl⟩ [some 0, none, some 1] (of_decide_eq_true rfl) (of_decide_eq_true rfl) rfl rfl rfl (fun H locs hP hD hS => ?_)
  have ho := Option.some.inj hfn
  subst ho
  exact zri hx hb hr hK hP hD hS hQ rfl hlocks dX11_feed_15
theorem zn_X11_end_X11 : ∀ w ∈ wsX110, w ∈ wsX11_end := fun _ h => List.mem_cons_of_mem _ (List.mem_append_right _ h)
theorem zw_X11_end_585 : Cond.fieldLink RX11 89 "ShortEnough" "tapeLength" "I" ∈ wsX11_end := List.mem_of_getElem? (i := 1) (by decide +kernel)
set_option maxHeartbeats 4000000 in
set_option maxRecDepth 100000 in
theorem zf_X11_end (l : Launch) (dC : Nat → ClassId) (dI : Nat → Nat → Nat) (h0 : Nat) (p1 : Int32) (r0_0 : Nat) (v0_1 : Int32) (r0_2 : Nat) (r0_3 : Nat) (r0_4 : Nat) (r0_5 : Nat) (r0_6 : Nat) (r0_7 : Nat) (r0_8 : Nat) (r0_9 : Nat) (r0_10 : Nat) (r0_11 : Nat) (r0_12 : Nat) (r0_13 : Nat) (r0_14 : Nat) (v0_15 : Int32) (k1 : Nat) (f1 : Nat → Int32) (o : Int32 × Int32 × (Nat → Int32)) (hfn : fn_X11_end p1 v0_1 f1 = some o) (sz : Nat) : zMi l yX11_end wsX11_end ({ frames := 1, cells := 0, slots := 0, locals := 21 }) (dC, dI) vwCl [.ref h0, .int p1] [zV11 h0 r0_0 v0_1 r0_2 r0_3 r0_4 r0_5 r0_6 r0_7 r0_8 r0_9 r0_10 r0_11 r0_12 r0_13 r0_14 v0_15, zVi r0_2 k1 5 f1] [(k1, .int)] (fun r _ => r = o.1 ∧ narrow .boolean (.int o.1) = .int o.1) [zV11 h0 r0_0 o.2.1 r0_2 r0_3 r0_4 r0_5 r0_6 r0_7 r0_8 r0_9 r0_10 r0_11 r0_12 r0_13 r0_14 v0_15, zVi r0_2 k1 5 o.2.2] [(k1, .int)] sz := by
  refine zgoi (cc := cX11_end) (maxL := 2) (ret := (some .boolean)) (C0 := RX11) (lv0 := [(0, .ref h0), (1, .int p1)]) zpl_X11 rfl rfl rfl (Nat.le_of_ble_eq_true rfl) ?_
  intro p e s m below meth c A ls Q hx hb hr hts hown hlocks hml hP hK hD hA hS hl hQ
  unfold fn_X11_end at hfn
  refine lv_iload_n hx hb dX11_end_0 rfl (lv_at hl 1 rfl) ?_
  refine lv_if_lt (tgt := 12) hx hb dX11_end_1 (of_decide_eq_true rfl) (fun c_1 => ?_) (fun c_1 => ?_)
  · have hfn := (if_pos c_1).symm.trans hfn
    refine lv_aload_n hx hb dX11_end_12 rfl (lv_at hl 0 rfl) ?_
    refine lv_iconst (v := 0) hx hb dX11_end_13 zci_0 ?_
    obtain ⟨o_2, hqo_2, hfn⟩ := zb_s hfn
    refine zcVi (ci := 11) (rest := []) (pc' := 17) (ws' := [zV11 h0 r0_0 v0_1 r0_2 r0_3 r0_4 r0_5 r0_6 r0_7 r0_8 r0_9 r0_10 r0_11 r0_12 r0_13 r0_14 v0_15, zVi r0_2 k1 5 o_2.2]) hP hK hD hS hA ⟨hx, hb, hml, hown, hts⟩ (zf_X11_refuse l dC dI h0 0 r0_0 v0_1 r0_2 r0_3 r0_4 r0_5 r0_6 r0_7 r0_8 r0_9 r0_10 r0_11 r0_12 r0_13 r0_14 v0_15 k1 f1 o_2 hqo_2 s.heap.size) (cwV 1 hts gX11_end_X11_refuse rfl rfl rfl zhd_X11_refuse ⟨Nat.le_of_ble_eq_true rfl, Nat.le_of_ble_eq_true rfl⟩) [0, 1] rfl (of_decide_eq_true rfl) [0] rfl rfl rfl rfl hl.1 rfl (Nat.le_of_ble_eq_true rfl) dX11_end_14 ⟨Nat.le_of_ble_eq_true rfl, Nat.le_of_ble_eq_true rfl⟩ [some 0, some 1] (of_decide_eq_true rfl) (of_decide_eq_true rfl) rfl rfl rfl (fun H locs hP hD hS => ?_)
    refine lv_pop hx hb dX11_end_17 rfl ?_
    refine lv_iconst (v := 0) hx hb dX11_end_18 zci_0 ?_
    have ho := Option.some.inj hfn
    subst ho
    exact zrz hx hb hr rfl hK hP hD hS hQ ⟨rfl, zB0⟩ hlocks dX11_end_19
  have hfn := (if_neg c_1).symm.trans hfn
  refine lv_iload_n hx hb dX11_end_4 rfl (lv_at hl 1 rfl) ?_
  refine lv_aload_n hx hb dX11_end_5 rfl (lv_at hl 0 rfl) ?_
  refine va_get (D := (dC, dI)) (ci := 11) (v := .int v0_1) (C := RX11) (T := TX11) (N := 16) hx hb hts zn_X11_end_X11 hown hK hP 0 rfl rfl 1 (of_decide_eq_true rfl) (hts (.fieldLink RX11 89 "ShortEnough" "tapeLength" "I") zw_X11_end_585) (fun _ h9 => h9) rfl dX11_end_6 ?_
  refine lv_icmp_le (tgt := 20) hx hb dX11_end_9 (of_decide_eq_true rfl) (fun c_6 => ?_) (fun c_6 => ?_)
  · have hfn := (if_pos c_6).symm.trans hfn
    refine lv_aload_n hx hb dX11_end_20 rfl (lv_at hl 0 rfl) ?_
    refine lv_iload_n hx hb dX11_end_21 rfl (lv_at hl 1 rfl) ?_
    refine va_put (D := (dC, dI)) (ci := 11) (v := .int p1) (ty := .int) (C := RX11) (T := TX11) (N := 16) hx hb hts zn_X11_end_X11 tyX11 tyX11_ok nmX11 hown hK hP hD hS 0 rfl rfl 1 (of_decide_eq_true rfl) (hts (.fieldLink RX11 89 "ShortEnough" "tapeLength" "I") zw_X11_end_585) (fun _ h9 => h9) rfl (tyX11_ok 1 (of_decide_eq_true rfl)) rfl rfl (Nat.le_of_ble_eq_true rfl) dX11_end_22 (fun H locs hP hD hS => ?_)
    have hP : va_P (dC, dI) vwCl [zV11 h0 r0_0 p1 r0_2 r0_3 r0_4 r0_5 r0_6 r0_7 r0_8 r0_9 r0_10 r0_11 r0_12 r0_13 r0_14 v0_15, zVi r0_2 k1 5 f1] H := hP
    have hD := zDW hD hP rfl
    refine lv_iconst (v := 1) hx hb dX11_end_25 zci_1 ?_
    have ho := Option.some.inj hfn
    subst ho
    exact zrz hx hb hr rfl hK hP hD hS hQ ⟨rfl, zB1⟩ hlocks dX11_end_26
  have hfn := (if_neg c_6).symm.trans hfn
  refine lv_aload_n hx hb dX11_end_12 rfl (lv_at hl 0 rfl) ?_
  refine lv_iconst (v := 0) hx hb dX11_end_13 zci_0 ?_
  obtain ⟨o_7, hqo_7, hfn⟩ := zb_s hfn
  refine zcVi (ci := 11) (rest := []) (pc' := 17) (ws' := [zV11 h0 r0_0 v0_1 r0_2 r0_3 r0_4 r0_5 r0_6 r0_7 r0_8 r0_9 r0_10 r0_11 r0_12 r0_13 r0_14 v0_15, zVi r0_2 k1 5 o_7.2]) hP hK hD hS hA ⟨hx, hb, hml, hown, hts⟩ (zf_X11_refuse l dC dI h0 0 r0_0 v0_1 r0_2 r0_3 r0_4 r0_5 r0_6 r0_7 r0_8 r0_9 r0_10 r0_11 r0_12 r0_13 r0_14 v0_15 k1 f1 o_7 hqo_7 s.heap.size) (cwV 1 hts gX11_end_X11_refuse rfl rfl rfl zhd_X11_refuse ⟨Nat.le_of_ble_eq_true rfl, Nat.le_of_ble_eq_true rfl⟩) [0, 1] rfl (of_decide_eq_true rfl) [0] rfl rfl rfl rfl hl.1 rfl (Nat.le_of_ble_eq_true rfl) dX11_end_14 ⟨Nat.le_of_ble_eq_true rfl, Nat.le_of_ble_eq_true rfl⟩ [some 0, some 1] (of_decide_eq_true rfl) (of_decide_eq_true rfl) rfl rfl rfl (fun H locs hP hD hS => ?_)
  refine lv_pop hx hb dX11_end_17 rfl ?_
  refine lv_iconst (v := 0) hx hb dX11_end_18 zci_0 ?_
  have ho := Option.some.inj hfn
  subst ho
  exact zrz hx hb hr rfl hK hP hD hS hQ ⟨rfl, zB0⟩ hlocks dX11_end_19
theorem zn_X11_task_X11 : ∀ w ∈ wsX110, w ∈ wsX11_task := fun _ h => List.mem_cons_of_mem _ (List.mem_append_left _ (List.mem_append_left _ (List.mem_append_left _ (List.mem_append_left _ (List.mem_append_left _ (List.mem_append_left _ (List.mem_append_left _ (List.mem_append_left _ (List.mem_append_left _ (List.mem_append_right _ h))))))))))
theorem zw_X11_task_587 : Cond.fieldLink RX11 89 "ShortEnough" "tapeLength" "I" ∈ wsX11_task := List.mem_of_getElem? (i := 1) (by decide +kernel)
theorem zw_X11_task_588 : Cond.fieldLink RX11 20 "ShortEnough" "parser" "LShortEnough$Parser;" ∈ wsX11_task := List.mem_of_getElem? (i := 2) (by decide +kernel)
theorem zw_X11_task_589 : Cond.fieldLink RX11 9 "ShortEnough" "tape" "[B" ∈ wsX11_task := List.mem_of_getElem? (i := 3) (by decide +kernel)
theorem zw_X11_task_590 : Cond.fieldLink RX11 31 "ShortEnough" "spare" "LShortEnough$Task;" ∈ wsX11_task := List.mem_of_getElem? (i := 4) (by decide +kernel)
theorem zw_X11_task_591 : Cond.fieldLink RX11 27 "ShortEnough" "current" "LShortEnough$Task;" ∈ wsX11_task := List.mem_of_getElem? (i := 5) (by decide +kernel)
theorem zn_X11_task_X9 : ∀ w ∈ wsX90, w ∈ wsX11_task := fun _ h => List.mem_cons_of_mem _ (List.mem_append_left _ (List.mem_append_left _ (List.mem_append_left _ (List.mem_append_left _ (List.mem_append_left _ (List.mem_append_left _ (List.mem_append_left _ (List.mem_append_left _ (List.mem_append_right _ h)))))))))
theorem zw_X11_task_593 : Cond.fieldLink RX11 107 "ShortEnough$Task" "groups" "LShortEnough$Groups;" ∈ wsX11_task := List.mem_of_getElem? (i := 6) (by decide +kernel)
theorem zw_X11_task_594 : Cond.fieldLink RX11 34 "ShortEnough" "hand" "[I" ∈ wsX11_task := List.mem_of_getElem? (i := 7) (by decide +kernel)
theorem zw_X11_task_595 : Cond.fieldLink RX11 60 "ShortEnough" "full" "LShortEnough$FullSearch;" ∈ wsX11_task := List.mem_of_getElem? (i := 8) (by decide +kernel)
theorem zw_X11_task_596 : Cond.fieldLink RX11 67 "ShortEnough" "local" "LShortEnough$LocalSearch;" ∈ wsX11_task := List.mem_of_getElem? (i := 9) (by decide +kernel)
theorem zw_X11_task_597 : Cond.fieldLink RX11 74 "ShortEnough" "reader" "LShortEnough$CertificateReader;" ∈ wsX11_task := List.mem_of_getElem? (i := 10) (by decide +kernel)
theorem zw_X11_task_598 : Cond.fieldLink RX11 122 "ShortEnough$Task" "numbers" "LShortEnough$Numbers;" ∈ wsX11_task := List.mem_of_getElem? (i := 11) (by decide +kernel)
theorem zn_X11_task_X4 : ∀ w ∈ wsX40, w ∈ wsX11_task := fun _ h => List.mem_cons_of_mem _ (List.mem_append_left _ (List.mem_append_left _ (List.mem_append_left _ (List.mem_append_left _ (List.mem_append_left _ (List.mem_append_left _ (List.mem_append_left _ (List.mem_append_right _ h))))))))
theorem zw_X11_task_600 : Cond.fieldLink RX11 126 "ShortEnough$Numbers" "count" "I" ∈ wsX11_task := List.mem_of_getElem? (i := 12) (by decide +kernel)
set_option maxHeartbeats 4000000 in
set_option maxRecDepth 100000 in
theorem zf_X11_task (l : Launch) (dC : Nat → ClassId) (dI : Nat → Nat → Nat) (h0 : Nat) (r0_0 : Nat) (v0_1 : Int32) (r0_2 : Nat) (r0_3 : Nat) (r0_4 : Nat) (r0_5 : Nat) (r0_6 : Nat) (r0_7 : Nat) (r0_8 : Nat) (r0_9 : Nat) (r0_10 : Nat) (r0_11 : Nat) (r0_12 : Nat) (r0_13 : Nat) (r0_14 : Nat) (v0_15 : Int32) (r1_0 : Nat) (v1_1 : Int32) (v1_2 : Int32) (v1_3 : Int32) (v2_0 : Int32) (r2_1 : Nat) (r2_2 : Nat) (r2_3 : Nat) (r2_4 : Nat) (v2_5 : Int32) (r2_6 : Nat) (r2_7 : Nat) (r2_8 : Nat) (v3_0 : Int32) (v3_1 : Int32) (r3_2 : Nat) (r3_3 : Nat) (r3_4 : Nat) (r3_5 : Nat) (r3_6 : Nat) (r3_7 : Nat) (r3_8 : Nat) (r3_9 : Nat) (r4_0 : Nat) (r4_1 : Nat) (v4_2 : Int32) (v4_3 : Int32) (v4_4 : Int32) (v4_5 : Int32) (v4_6 : Int32) (v4_7 : Int32) (k5 : Nat) (f5 : Nat → Int32) (k6 : Nat) (f6 : Nat → Int32) (k7 : Nat) (f7 : Nat → Int32) (k8 : Nat) (f8 : Nat → Int32) (k9 : Nat) (f9 : Nat → Int32) (k10 : Nat) (f10 : Nat → Int32) (k11 : Nat) (f11 : Nat → Int32) (k12 : Nat) (f12 : Nat → Int32) (k13 : Nat) (f13 : Nat → Int32) (k14 : Nat) (f14 : Nat → Int32) (k15 : Nat) (f15 : Nat → Int32) (k16 : Nat) (f16 : Nat → Int32) (k17 : Nat) (f17 : Nat → Int32) (k18 : Nat) (f18 : Nat → Int32) (v19_0 : Int32) (v19_1 : Int32) (v19_2 : Int32) (r19_3 : Nat) (r19_4 : Nat) (r19_5 : Nat) (k20 : Nat) (f20 : Nat → Int32) (k21 : Nat) (f21 : Nat → Int32) (k22 : Nat) (f22 : Nat → Int32) (r23_0 : Nat) (r23_1 : Nat) (r23_2 : Nat) (k24 : Nat) (f24 : Nat → Int64) (k25 : Nat) (f25 : Nat → Int64) (k26 : Nat) (f26 : Nat → Int32) (k27 : Nat) (f27 : Nat → Int32) (r28_0 : Nat) (r28_1 : Nat) (v28_2 : Int32) (v28_3 : Int32) (r28_4 : Nat) (r28_5 : Nat) (v28_6 : Int32) (v28_7 : Int32) (v28_8 : Int32) (v28_9 : Int32) (v28_10 : Int32) (r28_11 : Nat) (r28_12 : Nat) (r28_13 : Nat) (r29_0 : Nat) (r29_1 : Nat) (v29_2 : Int32) (v29_3 : Int32) (r29_4 : Nat) (r29_5 : Nat) (r29_6 : Nat) (r29_7 : Nat) (v29_8 : Int32) (r29_9 : Nat) (v29_10 : Int32) (v29_11 : Int32) (v29_12 : Int32) (v29_13 : Int32) (v29_14 : Int32) (v29_15 : Int32) (r30_0 : Nat) (r30_1 : Nat) (r30_2 : Nat) (v30_3 : Int32) (v30_4 : Int32) (k31 : Nat) (f31 : Nat → Int32) (o : Int32 × Int32 × Int32 × Int32 × Int32 × Int32 × Int32 × Int32 × Int32 × Int32 × Int32 × Int32 × Int32 × Int32 × Int32 × Int32 × Int32 × (Nat → Int32) × (Nat → Int32) × (Nat → Int32) × (Nat → Int32) × (Nat → Int32) × (Nat → Int32) × (Nat → Int32) × (Nat → Int32) × (Nat → Int32) × (Nat → Int32) × (Nat → Int32) × (Nat → Int32) × Int32 × Int32 × Int32 × (Nat → Int32) × (Nat → Int32) × (Nat → Int32) × (Nat → Int64) × (Nat → Int64) × (Nat → Int32) × (Nat → Int32) × Int32 × Int32 × Int32 × Int32 × Int32 × (Nat → Int32)) (hfn : fn_X11_task v0_1 v1_1 f5 f6 f7 f8 f9 f10 f11 f12 f13 f14 f15 f16 f17 f18 v19_0 v19_1 v19_2 f20 f21 f22 f24 f25 f26 f27 v28_2 v28_9 v29_2 v30_3 v30_4 f31 = some o) (sz : Nat) : zNi [(RX6, 83, yX11_apply, RX11)] l yX11_task wsX11_task ({ frames := 7, cells := 0, slots := 0, locals := 180 }) (dC, dI) vwCl [.ref h0] [zV11 h0 r0_0 v0_1 r0_2 r0_3 r0_4 r0_5 r0_6 r0_7 r0_8 r0_9 r0_10 r0_11 r0_12 r0_13 r0_14 v0_15, zV5 r0_3 r1_0 v1_1 v1_2 v1_3, zV9 r0_5 v2_0 r2_1 r2_2 r2_3 r2_4 v2_5 r2_6 r2_7 r2_8, zV4 r2_6 v3_0 v3_1 r3_2 r3_3 r3_4 r3_5 r3_6 r3_7 r3_8 r3_9, zV10 r1_0 r4_0 r4_1 v4_2 v4_3 v4_4 v4_5 v4_6 v4_7, zVi r0_0 k5 1200 f5, zVi r4_0 k6 13 f6, zVi r2_1 k7 4 f7, zVi r3_2 k8 14 f8, zVi r2_2 k9 4 f9, zVi r2_3 k10 4 f10, zVi r2_4 k11 4 f11, zVi r3_5 k12 14 f12, zVi r3_8 k13 28 f13, zVi r3_9 k14 28 f14, zVi r3_3 k15 14 f15, zVi r3_4 k16 14 f16, zVi r3_7 k17 14 f17, zVi r3_6 k18 14 f18, zV2 r2_7 v19_0 v19_1 v19_2 r19_3 r19_4 r19_5, zVi r19_3 k20 14 f20, zVi r19_5 k21 14 f21, zVi r19_4 k22 14 f22, zV6 r2_8 r23_0 r23_1 r23_2, zVl r23_0 k24 14 f24, zVl r23_1 k25 14 f25, zVi r23_2 k26 14 f26, zVi r0_6 k27 14 f27, zV1 r0_11 r28_0 r28_1 v28_2 v28_3 r28_4 r28_5 v28_6 v28_7 v28_8 v28_9 v28_10 r28_11 r28_12 r28_13, zV3 r0_12 r29_0 r29_1 v29_2 v29_3 r29_4 r29_5 r29_6 r29_7 v29_8 r29_9 v29_10 v29_11 v29_12 v29_13 v29_14 v29_15, zV0 r0_13 r30_0 r30_1 r30_2 v30_3 v30_4, zVi r0_2 k31 5 f31] [(k5, .byte), (k6, .int), (k7, .int), (k8, .int), (k9, .int), (k10, .int), (k11, .int), (k12, .int), (k13, .int), (k14, .int), (k15, .int), (k16, .int), (k17, .int), (k18, .int), (k20, .int), (k21, .int), (k22, .int), (k24, .long), (k25, .long), (k26, .boolean), (k27, .int), (k31, .int)] (fun r _ => r = o.1) [zV11 h0 r0_0 o.2.1 r0_2 r0_3 (zsel o.2.2.1 r0_4 r0_5) (zsel o.2.2.2.1 r0_4 r0_5) r0_6 r0_7 r0_8 r0_9 r0_10 r0_11 r0_12 r0_13 r0_14 v0_15, zV5 r0_3 r1_0 o.2.2.2.2.1 o.2.2.2.2.2.1 o.2.2.2.2.2.2.1, zV9 r0_5 o.2.2.2.2.2.2.2.1 r2_1 r2_2 r2_3 r2_4 o.2.2.2.2.2.2.2.2.1 r2_6 r2_7 r2_8, zV4 r2_6 o.2.2.2.2.2.2.2.2.2.1 o.2.2.2.2.2.2.2.2.2.2.1 r3_2 r3_3 r3_4 r3_5 r3_6 r3_7 r3_8 r3_9, zV10 r1_0 r4_0 r0_0 o.2.2.2.2.2.2.2.2.2.2.2.1 o.2.2.2.2.2.2.2.2.2.2.2.2.1 o.2.2.2.2.2.2.2.2.2.2.2.2.2.1 o.2.2.2.2.2.2.2.2.2.2.2.2.2.2.1 o.2.2.2.2.2.2.2.2.2.2.2.2.2.2.2.1 o.2.2.2.2.2.2.2.2.2.2.2.2.2.2.2.2.1, zVi r0_0 k5 1200 f5, zVi r4_0 k6 13 f6, zVi r2_1 k7 4 o.2.2.2.2.2.2.2.2.2.2.2.2.2.2.2.2.2.1, zVi r3_2 k8 14 o.2.2.2.2.2.2.2.2.2.2.2.2.2.2.2.2.2.2.1, zVi r2_2 k9 4 o.2.2.2.2.2.2.2.2.2.2.2.2.2.2.2.2.2.2.2.1, zVi r2_3 k10 4 o.2.2.2.2.2.2.2.2.2.2.2.2.2.2.2.2.2.2.2.2.1, zVi r2_4 k11 4 o.2.2.2.2.2.2.2.2.2.2.2.2.2.2.2.2.2.2.2.2.2.1, zVi r3_5 k12 14 o.2.2.2.2.2.2.2.2.2.2.2.2.2.2.2.2.2.2.2.2.2.2.1, zVi r3_8 k13 28 o.2.2.2.2.2.2.2.2.2.2.2.2.2.2.2.2.2.2.2.2.2.2.2.1, zVi r3_9 k14 28 o.2.2.2.2.2.2.2.2.2.2.2.2.2.2.2.2.2.2.2.2.2.2.2.2.1, zVi r3_3 k15 14 o.2.2.2.2.2.2.2.2.2.2.2.2.2.2.2.2.2.2.2.2.2.2.2.2.2.1, zVi r3_4 k16 14 o.2.2.2.2.2.2.2.2.2.2.2.2.2.2.2.2.2.2.2.2.2.2.2.2.2.2.1, zVi r3_7 k17 14 o.2.2.2.2.2.2.2.2.2.2.2.2.2.2.2.2.2.2.2.2.2.2.2.2.2.2.2.1, zVi r3_6 k18 14 o.2.2.2.2.2.2.2.2.2.2.2.2.2.2.2.2.2.2.2.2.2.2.2.2.2.2.2.2.1, zV2 r2_7 o.2.2.2.2.2.2.2.2.2.2.2.2.2.2.2.2.2.2.2.2.2.2.2.2.2.2.2.2.2.1 o.2.2.2.2.2.2.2.2.2.2.2.2.2.2.2.2.2.2.2.2.2.2.2.2.2.2.2.2.2.2.1 o.2.2.2.2.2.2.2.2.2.2.2.2.2.2.2.2.2.2.2.2.2.2.2.2.2.2.2.2.2.2.2.1 r19_3 r19_4 r19_5, zVi r19_3 k20 14 o.2.2.2.2.2.2.2.2.2.2.2.2.2.2.2.2.2.2.2.2.2.2.2.2.2.2.2.2.2.2.2.2.1, zVi r19_5 k21 14 o.2.2.2.2.2.2.2.2.2.2.2.2.2.2.2.2.2.2.2.2.2.2.2.2.2.2.2.2.2.2.2.2.2.1, zVi r19_4 k22 14 o.2.2.2.2.2.2.2.2.2.2.2.2.2.2.2.2.2.2.2.2.2.2.2.2.2.2.2.2.2.2.2.2.2.2.1, zV6 r2_8 r23_0 r23_1 r23_2, zVl r23_0 k24 14 o.2.2.2.2.2.2.2.2.2.2.2.2.2.2.2.2.2.2.2.2.2.2.2.2.2.2.2.2.2.2.2.2.2.2.2.1, zVl r23_1 k25 14 o.2.2.2.2.2.2.2.2.2.2.2.2.2.2.2.2.2.2.2.2.2.2.2.2.2.2.2.2.2.2.2.2.2.2.2.2.1, zVi r23_2 k26 14 o.2.2.2.2.2.2.2.2.2.2.2.2.2.2.2.2.2.2.2.2.2.2.2.2.2.2.2.2.2.2.2.2.2.2.2.2.2.1, zVi r0_6 k27 14 o.2.2.2.2.2.2.2.2.2.2.2.2.2.2.2.2.2.2.2.2.2.2.2.2.2.2.2.2.2.2.2.2.2.2.2.2.2.2.1, zV1 r0_11 r28_0 r28_1 o.2.2.2.2.2.2.2.2.2.2.2.2.2.2.2.2.2.2.2.2.2.2.2.2.2.2.2.2.2.2.2.2.2.2.2.2.2.2.2.1 v28_3 r28_4 r28_5 v28_6 v28_7 v28_8 o.2.2.2.2.2.2.2.2.2.2.2.2.2.2.2.2.2.2.2.2.2.2.2.2.2.2.2.2.2.2.2.2.2.2.2.2.2.2.2.2.1 v28_10 r28_11 r28_12 r28_13, zV3 r0_12 r29_0 r29_1 o.2.2.2.2.2.2.2.2.2.2.2.2.2.2.2.2.2.2.2.2.2.2.2.2.2.2.2.2.2.2.2.2.2.2.2.2.2.2.2.2.2.1 v29_3 r29_4 r29_5 r29_6 r29_7 v29_8 r29_9 v29_10 v29_11 v29_12 v29_13 v29_14 v29_15, zV0 r0_13 r30_0 r30_1 r30_2 o.2.2.2.2.2.2.2.2.2.2.2.2.2.2.2.2.2.2.2.2.2.2.2.2.2.2.2.2.2.2.2.2.2.2.2.2.2.2.2.2.2.2.1 o.2.2.2.2.2.2.2.2.2.2.2.2.2.2.2.2.2.2.2.2.2.2.2.2.2.2.2.2.2.2.2.2.2.2.2.2.2.2.2.2.2.2.2.1, zVi r0_2 k31 5 o.2.2.2.2.2.2.2.2.2.2.2.2.2.2.2.2.2.2.2.2.2.2.2.2.2.2.2.2.2.2.2.2.2.2.2.2.2.2.2.2.2.2.2.2] [(k5, .byte), (k6, .int), (k7, .int), (k8, .int), (k9, .int), (k10, .int), (k11, .int), (k12, .int), (k13, .int), (k14, .int), (k15, .int), (k16, .int), (k17, .int), (k18, .int), (k20, .int), (k21, .int), (k22, .int), (k24, .long), (k25, .long), (k26, .boolean), (k27, .int), (k31, .int)] sz := by
  refine zgoNi (cc := cX11_task) (maxL := 3) (ret := (some .int)) (C0 := RX11) (lv0 := [(0, .ref h0)]) zpl_X11 rfl rfl rfl (Nat.le_of_ble_eq_true rfl) ?_
  intro p e s m below meth c A ls Q hN hx hb hr hts hown hlocks hml hP hK hD hA hS hl hQ
  have hn0 : va_Nw (.methodLinkNest RX6 83 yX11_apply RX11) s := hN.1
  unfold fn_X11_task at hfn
  refine lv_aload_n hx hb dX11_task_0 rfl (lv_at hl 0 rfl) ?_
  refine va_get (D := (dC, dI)) (ci := 11) (v := .int v0_1) (C := RX11) (T := TX11) (N := 16) hx hb hts zn_X11_task_X11 hown hK hP 0 rfl rfl 1 (of_decide_eq_true rfl) (hts (.fieldLink RX11 89 "ShortEnough" "tapeLength" "I") zw_X11_task_587) (fun _ h9 => h9) rfl dX11_task_1 ?_
  refine lv_istore_n (lv' := [(1, .int v0_1), (0, .ref h0)]) hx hb dX11_task_4 rfl hl (of_decide_eq_true rfl) rfl (fun ls hl => ?_)
  refine lv_aload_n hx hb dX11_task_5 rfl (lv_at hl 1 rfl) ?_
  refine lv_iconst (v := 0) hx hb dX11_task_6 zci_0 ?_
  refine va_put (D := (dC, dI)) (ci := 11) (v := .int 0) (ty := .int) (C := RX11) (T := TX11) (N := 16) hx hb hts zn_X11_task_X11 tyX11 tyX11_ok nmX11 hown hK hP hD hS 0 rfl rfl 1 (of_decide_eq_true rfl) (hts (.fieldLink RX11 89 "ShortEnough" "tapeLength" "I") zw_X11_task_587) (fun _ h9 => h9) rfl (tyX11_ok 1 (of_decide_eq_true rfl)) rfl rfl (Nat.le_of_ble_eq_true rfl) dX11_task_7 (fun H locs hP hD hS => ?_)
  have hP : va_P (dC, dI) vwCl [zV11 h0 r0_0 0 r0_2 r0_3 r0_4 r0_5 r0_6 r0_7 r0_8 r0_9 r0_10 r0_11 r0_12 r0_13 r0_14 v0_15, zV5 r0_3 r1_0 v1_1 v1_2 v1_3, zV9 r0_5 v2_0 r2_1 r2_2 r2_3 r2_4 v2_5 r2_6 r2_7 r2_8, zV4 r2_6 v3_0 v3_1 r3_2 r3_3 r3_4 r3_5 r3_6 r3_7 r3_8 r3_9, zV10 r1_0 r4_0 r4_1 v4_2 v4_3 v4_4 v4_5 v4_6 v4_7, zVi r0_0 k5 1200 f5, zVi r4_0 k6 13 f6, zVi r2_1 k7 4 f7, zVi r3_2 k8 14 f8, zVi r2_2 k9 4 f9, zVi r2_3 k10 4 f10, zVi r2_4 k11 4 f11, zVi r3_5 k12 14 f12, zVi r3_8 k13 28 f13, zVi r3_9 k14 28 f14, zVi r3_3 k15 14 f15, zVi r3_4 k16 14 f16, zVi r3_7 k17 14 f17, zVi r3_6 k18 14 f18, zV2 r2_7 v19_0 v19_1 v19_2 r19_3 r19_4 r19_5, zVi r19_3 k20 14 f20, zVi r19_5 k21 14 f21, zVi r19_4 k22 14 f22, zV6 r2_8 r23_0 r23_1 r23_2, zVl r23_0 k24 14 f24, zVl r23_1 k25 14 f25, zVi r23_2 k26 14 f26, zVi r0_6 k27 14 f27, zV1 r0_11 r28_0 r28_1 v28_2 v28_3 r28_4 r28_5 v28_6 v28_7 v28_8 v28_9 v28_10 r28_11 r28_12 r28_13, zV3 r0_12 r29_0 r29_1 v29_2 v29_3 r29_4 r29_5 r29_6 r29_7 v29_8 r29_9 v29_10 v29_11 v29_12 v29_13 v29_14 v29_15, zV0 r0_13 r30_0 r30_1 r30_2 v30_3 v30_4, zVi r0_2 k31 5 f31] H := hP
  have hD := zDW hD hP rfl
  refine lv_aload_n hx hb dX11_task_10 rfl (lv_at hl 1 rfl) ?_
  refine va_get (D := (dC, dI)) (ci := 11) (v := .ref r0_3) (C := RX11) (T := TX11) (N := 16) hx hb hts zn_X11_task_X11 hown hK hP 0 rfl rfl 3 (of_decide_eq_true rfl) (hts (.fieldLink RX11 20 "ShortEnough" "parser" "LShortEnough$Parser;") zw_X11_task_588) (fun _ h9 => h9) rfl dX11_task_11 ?_
  refine lv_aload_n hx hb dX11_task_14 rfl (lv_at hl 1 rfl) ?_
  refine va_get (D := (dC, dI)) (ci := 11) (v := .ref r0_0) (C := RX11) (T := TX11) (N := 16) hx hb hts zn_X11_task_X11 hown hK hP 0 rfl rfl 0 (of_decide_eq_true rfl) (hts (.fieldLink RX11 9 "ShortEnough" "tape" "[B") zw_X11_task_589) (fun _ h9 => h9) rfl dX11_task_15 ?_
  refine lv_iload_n hx hb dX11_task_18 rfl (lv_at hl 0 rfl) ?_
  refine lv_aload_n hx hb dX11_task_19 rfl (lv_at hl 1 rfl) ?_
  refine va_get (D := (dC, dI)) (ci := 11) (v := .ref r0_5) (C := RX11) (T := TX11) (N := 16) hx hb hts zn_X11_task_X11 hown hK hP 0 rfl rfl 5 (of_decide_eq_true rfl) (hts (.fieldLink RX11 31 "ShortEnough" "spare" "LShortEnough$Task;") zw_X11_task_590) (fun _ h9 => h9) rfl dX11_task_20 ?_
  obtain ⟨o_1, hqo_1, hfn⟩ := zb_s hfn
  refine zcVb (ci := 5) (rest := []) (pc' := 26) (ws' := [zV11 h0 r0_0 0 r0_2 r0_3 r0_4 r0_5 r0_6 r0_7 r0_8 r0_9 r0_10 r0_11 r0_12 r0_13 r0_14 v0_15, zV5 r0_3 r1_0 o_1.2.1 o_1.2.2.1 o_1.2.2.2.1, zV9 r0_5 o_1.2.2.2.2.1 r2_1 r2_2 r2_3 r2_4 o_1.2.2.2.2.2.1 r2_6 r2_7 r2_8, zV4 r2_6 o_1.2.2.2.2.2.2.1 o_1.2.2.2.2.2.2.2.1 r3_2 r3_3 r3_4 r3_5 r3_6 r3_7 r3_8 r3_9, zV10 r1_0 r4_0 r0_0 o_1.2.2.2.2.2.2.2.2.1 o_1.2.2.2.2.2.2.2.2.2.1 o_1.2.2.2.2.2.2.2.2.2.2.1 o_1.2.2.2.2.2.2.2.2.2.2.2.1 o_1.2.2.2.2.2.2.2.2.2.2.2.2.1 o_1.2.2.2.2.2.2.2.2.2.2.2.2.2.1, zVi r0_0 k5 1200 f5, zVi r4_0 k6 13 f6, zVi r2_1 k7 4 o_1.2.2.2.2.2.2.2.2.2.2.2.2.2.2.1, zVi r3_2 k8 14 o_1.2.2.2.2.2.2.2.2.2.2.2.2.2.2.2.1, zVi r2_2 k9 4 o_1.2.2.2.2.2.2.2.2.2.2.2.2.2.2.2.2.1, zVi r2_3 k10 4 o_1.2.2.2.2.2.2.2.2.2.2.2.2.2.2.2.2.2.1, zVi r2_4 k11 4 o_1.2.2.2.2.2.2.2.2.2.2.2.2.2.2.2.2.2.2.1, zVi r3_5 k12 14 o_1.2.2.2.2.2.2.2.2.2.2.2.2.2.2.2.2.2.2.2.1, zVi r3_8 k13 28 o_1.2.2.2.2.2.2.2.2.2.2.2.2.2.2.2.2.2.2.2.2.1, zVi r3_9 k14 28 o_1.2.2.2.2.2.2.2.2.2.2.2.2.2.2.2.2.2.2.2.2.2.1, zVi r3_3 k15 14 o_1.2.2.2.2.2.2.2.2.2.2.2.2.2.2.2.2.2.2.2.2.2.2.1, zVi r3_4 k16 14 o_1.2.2.2.2.2.2.2.2.2.2.2.2.2.2.2.2.2.2.2.2.2.2.2.1, zVi r3_7 k17 14 o_1.2.2.2.2.2.2.2.2.2.2.2.2.2.2.2.2.2.2.2.2.2.2.2.2.1, zVi r3_6 k18 14 o_1.2.2.2.2.2.2.2.2.2.2.2.2.2.2.2.2.2.2.2.2.2.2.2.2.2, zV2 r2_7 v19_0 v19_1 v19_2 r19_3 r19_4 r19_5, zVi r19_3 k20 14 f20, zVi r19_5 k21 14 f21, zVi r19_4 k22 14 f22, zV6 r2_8 r23_0 r23_1 r23_2, zVl r23_0 k24 14 f24, zVl r23_1 k25 14 f25, zVi r23_2 k26 14 f26, zVi r0_6 k27 14 f27, zV1 r0_11 r28_0 r28_1 v28_2 v28_3 r28_4 r28_5 v28_6 v28_7 v28_8 v28_9 v28_10 r28_11 r28_12 r28_13, zV3 r0_12 r29_0 r29_1 v29_2 v29_3 r29_4 r29_5 r29_6 r29_7 v29_8 r29_9 v29_10 v29_11 v29_12 v29_13 v29_14 v29_15, zV0 r0_13 r30_0 r30_1 r30_2 v30_3 v30_4, zVi r0_2 k31 5 f31]) hP hK hD hS hA ⟨hx, hb, hml, hown, hts⟩ (zf_X5_read l dC dI r0_3 r0_0 v0_1 r0_5 r1_0 v1_1 v1_2 v1_3 v2_0 r2_1 r2_2 r2_3 r2_4 v2_5 r2_6 r2_7 r2_8 v3_0 v3_1 r3_2 r3_3 r3_4 r3_5 r3_6 r3_7 r3_8 r3_9 r4_0 r4_1 v4_2 v4_3 v4_4 v4_5 v4_6 v4_7 k5 f5 k6 f6 k7 f7 k8 f8 k9 f9 k10 f10 k11 f11 k12 f12 k13 f13 k14 f14 k15 f15 k16 f16 k17 f17 k18 f18 o_1 hqo_1 H.size) (cwV 3 hts gX11_task_X5_read rfl rfl rfl zhd_X5_read ⟨Nat.le_of_ble_eq_true rfl, Nat.le_of_ble_eq_true rfl⟩) [1, 2, 3, 4, 5, 6, 7, 8, 9, 10, 11, 12, 13, 14, 15, 16, 17, 18] rfl (of_decide_eq_true rfl) [0, 1, 2, 3, 4, 5, 6, 7, 8, 9, 10, 11, 12, 13] rfl rfl rfl rfl hl.1 rfl (Nat.le_of_ble_eq_true rfl) dX11_task_23 ⟨Nat.le_of_ble_eq_true rfl, Nat.le_of_ble_eq_true rfl⟩ [none, some 0, some 1, some 2, some 3, some 4, some 5, some 6, some 7, some 8, some 9, some 10, some 11, some 12, some 13, some 14, some 15, some 16, some 17] (of_decide_eq_true rfl) (of_decide_eq_true rfl) rfl rfl rfl (fun H locs hw_4n hP hD hS => ?_)
  refine lv_if_ne (tgt := 35) hx hb dX11_task_26 (of_decide_eq_true rfl) (fun c_5 => ?_) (fun c_5 => ?_)
  · have hfn := (if_neg c_5).symm.trans hfn
    refine lv_aload_n hx hb dX11_task_35 rfl (lv_at hl 1 rfl) ?_
    refine va_get (D := (dC, dI)) (ci := 11) (v := .ref r0_4) (C := RX11) (T := TX11) (N := 16) hx hb hts zn_X11_task_X11 hown hK hP 0 rfl rfl 4 (of_decide_eq_true rfl) (hts (.fieldLink RX11 27 "ShortEnough" "current" "LShortEnough$Task;") zw_X11_task_591) (fun _ h9 => h9) rfl dX11_task_36 ?_
    refine lv_astore_n (lv' := [(2, .ref r0_4), (1, .int v0_1), (0, .ref h0)]) hx hb dX11_task_39 rfl hl (of_decide_eq_true rfl) rfl (fun ls hl => ?_)
    refine lv_aload_n hx hb dX11_task_40 rfl (lv_at hl 2 rfl) ?_
    refine lv_aload_n hx hb dX11_task_41 rfl (lv_at hl 2 rfl) ?_
    refine va_get (D := (dC, dI)) (ci := 11) (v := .ref r0_5) (C := RX11) (T := TX11) (N := 16) hx hb hts zn_X11_task_X11 hown hK hP 0 rfl rfl 5 (of_decide_eq_true rfl) (hts (.fieldLink RX11 31 "ShortEnough" "spare" "LShortEnough$Task;") zw_X11_task_590) (fun _ h9 => h9) rfl dX11_task_42 ?_
    refine va_put (D := (dC, dI)) (ci := 11) (v := .ref r0_5) (ty := .object "ShortEnough$Task") (C := RX11) (T := TX11) (N := 16) hx hb hts zn_X11_task_X11 tyX11 tyX11_ok nmX11 hown hK hP hD hS 0 rfl rfl 4 (of_decide_eq_true rfl) (hts (.fieldLink RX11 27 "ShortEnough" "current" "LShortEnough$Task;") zw_X11_task_591) (fun _ h9 => h9) rfl (tyX11_ok 4 (of_decide_eq_true rfl)) rfl rfl (Nat.le_of_ble_eq_true rfl) dX11_task_45 (fun H locs hP hD hS => ?_)
    have hP : va_P (dC, dI) vwCl [zV11 h0 r0_0 0 r0_2 r0_3 r0_5 r0_5 r0_6 r0_7 r0_8 r0_9 r0_10 r0_11 r0_12 r0_13 r0_14 v0_15, zV5 r0_3 r1_0 o_1.2.1 o_1.2.2.1 o_1.2.2.2.1, zV9 r0_5 o_1.2.2.2.2.1 r2_1 r2_2 r2_3 r2_4 o_1.2.2.2.2.2.1 r2_6 r2_7 r2_8, zV4 r2_6 o_1.2.2.2.2.2.2.1 o_1.2.2.2.2.2.2.2.1 r3_2 r3_3 r3_4 r3_5 r3_6 r3_7 r3_8 r3_9, zV10 r1_0 r4_0 r0_0 o_1.2.2.2.2.2.2.2.2.1 o_1.2.2.2.2.2.2.2.2.2.1 o_1.2.2.2.2.2.2.2.2.2.2.1 o_1.2.2.2.2.2.2.2.2.2.2.2.1 o_1.2.2.2.2.2.2.2.2.2.2.2.2.1 o_1.2.2.2.2.2.2.2.2.2.2.2.2.2.1, zVi r0_0 k5 1200 f5, zVi r4_0 k6 13 f6, zVi r2_1 k7 4 o_1.2.2.2.2.2.2.2.2.2.2.2.2.2.2.1, zVi r3_2 k8 14 o_1.2.2.2.2.2.2.2.2.2.2.2.2.2.2.2.1, zVi r2_2 k9 4 o_1.2.2.2.2.2.2.2.2.2.2.2.2.2.2.2.2.1, zVi r2_3 k10 4 o_1.2.2.2.2.2.2.2.2.2.2.2.2.2.2.2.2.2.1, zVi r2_4 k11 4 o_1.2.2.2.2.2.2.2.2.2.2.2.2.2.2.2.2.2.2.1, zVi r3_5 k12 14 o_1.2.2.2.2.2.2.2.2.2.2.2.2.2.2.2.2.2.2.2.1, zVi r3_8 k13 28 o_1.2.2.2.2.2.2.2.2.2.2.2.2.2.2.2.2.2.2.2.2.1, zVi r3_9 k14 28 o_1.2.2.2.2.2.2.2.2.2.2.2.2.2.2.2.2.2.2.2.2.2.1, zVi r3_3 k15 14 o_1.2.2.2.2.2.2.2.2.2.2.2.2.2.2.2.2.2.2.2.2.2.2.1, zVi r3_4 k16 14 o_1.2.2.2.2.2.2.2.2.2.2.2.2.2.2.2.2.2.2.2.2.2.2.2.1, zVi r3_7 k17 14 o_1.2.2.2.2.2.2.2.2.2.2.2.2.2.2.2.2.2.2.2.2.2.2.2.2.1, zVi r3_6 k18 14 o_1.2.2.2.2.2.2.2.2.2.2.2.2.2.2.2.2.2.2.2.2.2.2.2.2.2, zV2 r2_7 v19_0 v19_1 v19_2 r19_3 r19_4 r19_5, zVi r19_3 k20 14 f20, zVi r19_5 k21 14 f21, zVi r19_4 k22 14 f22, zV6 r2_8 r23_0 r23_1 r23_2, zVl r23_0 k24 14 f24, zVl r23_1 k25 14 f25, zVi r23_2 k26 14 f26, zVi r0_6 k27 14 f27, zV1 r0_11 r28_0 r28_1 v28_2 v28_3 r28_4 r28_5 v28_6 v28_7 v28_8 v28_9 v28_10 r28_11 r28_12 r28_13, zV3 r0_12 r29_0 r29_1 v29_2 v29_3 r29_4 r29_5 r29_6 r29_7 v29_8 r29_9 v29_10 v29_11 v29_12 v29_13 v29_14 v29_15, zV0 r0_13 r30_0 r30_1 r30_2 v30_3 v30_4, zVi r0_2 k31 5 f31] H := hP
    have hD := zDW hD hP rfl
    refine lv_aload_n hx hb dX11_task_48 rfl (lv_at hl 2 rfl) ?_
    refine lv_aload_n hx hb dX11_task_49 rfl (lv_at hl 0 rfl) ?_
    refine va_put (D := (dC, dI)) (ci := 11) (v := .ref r0_4) (ty := .object "ShortEnough$Task") (C := RX11) (T := TX11) (N := 16) hx hb hts zn_X11_task_X11 tyX11 tyX11_ok nmX11 hown hK hP hD hS 0 rfl rfl 5 (of_decide_eq_true rfl) (hts (.fieldLink RX11 31 "ShortEnough" "spare" "LShortEnough$Task;") zw_X11_task_590) (fun _ h9 => h9) rfl (tyX11_ok 5 (of_decide_eq_true rfl)) rfl rfl (Nat.le_of_ble_eq_true rfl) dX11_task_50 (fun H locs hP hD hS => ?_)
    have hP : va_P (dC, dI) vwCl [zV11 h0 r0_0 0 r0_2 r0_3 r0_5 r0_4 r0_6 r0_7 r0_8 r0_9 r0_10 r0_11 r0_12 r0_13 r0_14 v0_15, zV5 r0_3 r1_0 o_1.2.1 o_1.2.2.1 o_1.2.2.2.1, zV9 r0_5 o_1.2.2.2.2.1 r2_1 r2_2 r2_3 r2_4 o_1.2.2.2.2.2.1 r2_6 r2_7 r2_8, zV4 r2_6 o_1.2.2.2.2.2.2.1 o_1.2.2.2.2.2.2.2.1 r3_2 r3_3 r3_4 r3_5 r3_6 r3_7 r3_8 r3_9, zV10 r1_0 r4_0 r0_0 o_1.2.2.2.2.2.2.2.2.1 o_1.2.2.2.2.2.2.2.2.2.1 o_1.2.2.2.2.2.2.2.2.2.2.1 o_1.2.2.2.2.2.2.2.2.2.2.2.1 o_1.2.2.2.2.2.2.2.2.2.2.2.2.1 o_1.2.2.2.2.2.2.2.2.2.2.2.2.2.1, zVi r0_0 k5 1200 f5, zVi r4_0 k6 13 f6, zVi r2_1 k7 4 o_1.2.2.2.2.2.2.2.2.2.2.2.2.2.2.1, zVi r3_2 k8 14 o_1.2.2.2.2.2.2.2.2.2.2.2.2.2.2.2.1, zVi r2_2 k9 4 o_1.2.2.2.2.2.2.2.2.2.2.2.2.2.2.2.2.1, zVi r2_3 k10 4 o_1.2.2.2.2.2.2.2.2.2.2.2.2.2.2.2.2.2.1, zVi r2_4 k11 4 o_1.2.2.2.2.2.2.2.2.2.2.2.2.2.2.2.2.2.2.1, zVi r3_5 k12 14 o_1.2.2.2.2.2.2.2.2.2.2.2.2.2.2.2.2.2.2.2.1, zVi r3_8 k13 28 o_1.2.2.2.2.2.2.2.2.2.2.2.2.2.2.2.2.2.2.2.2.1, zVi r3_9 k14 28 o_1.2.2.2.2.2.2.2.2.2.2.2.2.2.2.2.2.2.2.2.2.2.1, zVi r3_3 k15 14 o_1.2.2.2.2.2.2.2.2.2.2.2.2.2.2.2.2.2.2.2.2.2.2.1, zVi r3_4 k16 14 o_1.2.2.2.2.2.2.2.2.2.2.2.2.2.2.2.2.2.2.2.2.2.2.2.1, zVi r3_7 k17 14 o_1.2.2.2.2.2.2.2.2.2.2.2.2.2.2.2.2.2.2.2.2.2.2.2.2.1, zVi r3_6 k18 14 o_1.2.2.2.2.2.2.2.2.2.2.2.2.2.2.2.2.2.2.2.2.2.2.2.2.2, zV2 r2_7 v19_0 v19_1 v19_2 r19_3 r19_4 r19_5, zVi r19_3 k20 14 f20, zVi r19_5 k21 14 f21, zVi r19_4 k22 14 f22, zV6 r2_8 r23_0 r23_1 r23_2, zVl r23_0 k24 14 f24, zVl r23_1 k25 14 f25, zVi r23_2 k26 14 f26, zVi r0_6 k27 14 f27, zV1 r0_11 r28_0 r28_1 v28_2 v28_3 r28_4 r28_5 v28_6 v28_7 v28_8 v28_9 v28_10 r28_11 r28_12 r28_13, zV3 r0_12 r29_0 r29_1 v29_2 v29_3 r29_4 r29_5 r29_6 r29_7 v29_8 r29_9 v29_10 v29_11 v29_12 v29_13 v29_14 v29_15, zV0 r0_13 r30_0 r30_1 r30_2 v30_3 v30_4, zVi r0_2 k31 5 f31] H := hP
    have hD := zDW hD hP rfl
    refine lv_aload_n hx hb dX11_task_53 rfl (lv_at hl 2 rfl) ?_
    refine va_get (D := (dC, dI)) (ci := 11) (v := .ref r0_5) (C := RX11) (T := TX11) (N := 16) hx hb hts zn_X11_task_X11 hown hK hP 0 rfl rfl 4 (of_decide_eq_true rfl) (hts (.fieldLink RX11 27 "ShortEnough" "current" "LShortEnough$Task;") zw_X11_task_591) (fun _ h9 => h9) rfl dX11_task_54 ?_
    obtain ⟨o_6, hqo_6, hfn⟩ := zb_s hfn
    refine zcNVv (ci := 9) (rest := []) (pc' := 60) (ws' := [zV11 h0 r0_0 0 r0_2 r0_3 r0_5 r0_4 r0_6 r0_7 r0_8 r0_9 r0_10 r0_11 r0_12 r0_13 r0_14 v0_15, zV5 r0_3 r1_0 o_1.2.1 o_1.2.2.1 o_1.2.2.2.1, zV9 r0_5 o_1.2.2.2.2.1 r2_1 r2_2 r2_3 r2_4 o_1.2.2.2.2.2.1 r2_6 r2_7 r2_8, zV4 r2_6 o_1.2.2.2.2.2.2.1 o_1.2.2.2.2.2.2.2.1 r3_2 r3_3 r3_4 r3_5 r3_6 r3_7 r3_8 r3_9, zV10 r1_0 r4_0 r0_0 o_1.2.2.2.2.2.2.2.2.1 o_1.2.2.2.2.2.2.2.2.2.1 o_1.2.2.2.2.2.2.2.2.2.2.1 o_1.2.2.2.2.2.2.2.2.2.2.2.1 o_1.2.2.2.2.2.2.2.2.2.2.2.2.1 o_1.2.2.2.2.2.2.2.2.2.2.2.2.2.1, zVi r0_0 k5 1200 f5, zVi r4_0 k6 13 f6, zVi r2_1 k7 4 o_1.2.2.2.2.2.2.2.2.2.2.2.2.2.2.1, zVi r3_2 k8 14 o_1.2.2.2.2.2.2.2.2.2.2.2.2.2.2.2.1, zVi r2_2 k9 4 o_1.2.2.2.2.2.2.2.2.2.2.2.2.2.2.2.2.1, zVi r2_3 k10 4 o_1.2.2.2.2.2.2.2.2.2.2.2.2.2.2.2.2.2.1, zVi r2_4 k11 4 o_1.2.2.2.2.2.2.2.2.2.2.2.2.2.2.2.2.2.2.1, zVi r3_5 k12 14 o_1.2.2.2.2.2.2.2.2.2.2.2.2.2.2.2.2.2.2.2.1, zVi r3_8 k13 28 o_1.2.2.2.2.2.2.2.2.2.2.2.2.2.2.2.2.2.2.2.2.1, zVi r3_9 k14 28 o_1.2.2.2.2.2.2.2.2.2.2.2.2.2.2.2.2.2.2.2.2.2.1, zVi r3_3 k15 14 o_1.2.2.2.2.2.2.2.2.2.2.2.2.2.2.2.2.2.2.2.2.2.2.1, zVi r3_4 k16 14 o_1.2.2.2.2.2.2.2.2.2.2.2.2.2.2.2.2.2.2.2.2.2.2.2.1, zVi r3_7 k17 14 o_1.2.2.2.2.2.2.2.2.2.2.2.2.2.2.2.2.2.2.2.2.2.2.2.2.1, zVi r3_6 k18 14 o_1.2.2.2.2.2.2.2.2.2.2.2.2.2.2.2.2.2.2.2.2.2.2.2.2.2, zV2 r2_7 o_6.1 o_6.2.1 o_6.2.2.1 r19_3 r19_4 r19_5, zVi r19_3 k20 14 o_6.2.2.2.1, zVi r19_5 k21 14 o_6.2.2.2.2.1, zVi r19_4 k22 14 o_6.2.2.2.2.2.1, zV6 r2_8 r23_0 r23_1 r23_2, zVl r23_0 k24 14 o_6.2.2.2.2.2.2.1, zVl r23_1 k25 14 o_6.2.2.2.2.2.2.2.1, zVi r23_2 k26 14 o_6.2.2.2.2.2.2.2.2, zVi r0_6 k27 14 f27, zV1 r0_11 r28_0 r28_1 v28_2 v28_3 r28_4 r28_5 v28_6 v28_7 v28_8 v28_9 v28_10 r28_11 r28_12 r28_13, zV3 r0_12 r29_0 r29_1 v29_2 v29_3 r29_4 r29_5 r29_6 r29_7 v29_8 r29_9 v29_10 v29_11 v29_12 v29_13 v29_14 v29_15, zV0 r0_13 r30_0 r30_1 r30_2 v30_3 v30_4, zVi r0_2 k31 5 f31]) hP hK hD hS hA ⟨hx, hb, hml, hown, hts⟩ (zf_X9_settle l dC dI r0_5 o_1.2.2.2.2.1 r2_1 r2_2 r2_3 r2_4 o_1.2.2.2.2.2.1 r2_6 r2_7 r2_8 v19_0 v19_1 v19_2 r19_3 r19_4 r19_5 o_1.2.2.2.2.2.2.1 o_1.2.2.2.2.2.2.2.1 r3_2 r3_3 r3_4 r3_5 r3_6 r3_7 r3_8 r3_9 k17 o_1.2.2.2.2.2.2.2.2.2.2.2.2.2.2.2.2.2.2.2.2.2.2.2.2.1 k20 f20 k21 f21 k22 f22 k16 o_1.2.2.2.2.2.2.2.2.2.2.2.2.2.2.2.2.2.2.2.2.2.2.2.1 r23_0 r23_1 r23_2 k15 o_1.2.2.2.2.2.2.2.2.2.2.2.2.2.2.2.2.2.2.2.2.2.2.1 k13 o_1.2.2.2.2.2.2.2.2.2.2.2.2.2.2.2.2.2.2.2.2.1 k14 o_1.2.2.2.2.2.2.2.2.2.2.2.2.2.2.2.2.2.2.2.2.2.1 k24 f24 k25 f25 k26 f26 o_6 hqo_6 H.size) ⟨hn0, trivial⟩ (cwV 0 hts gX11_task_X9_settle rfl rfl rfl zhd_X9_settle ⟨Nat.le_of_ble_eq_true rfl, Nat.le_of_ble_eq_true rfl⟩) [2, 19, 3, 17, 20, 21, 22, 16, 23, 15, 13, 14, 24, 25, 26] rfl (of_decide_eq_true rfl) [12, 14, 15, 16, 11, 10, 8, 9, 17, 18, 19] rfl rfl rfl rfl hl.1 rfl (Nat.le_of_ble_eq_true rfl) dX11_task_57 ⟨Nat.le_of_ble_eq_true rfl, Nat.le_of_ble_eq_true rfl⟩ [none, none, some 0, some 2, none, none, none, none, none, none, none, none, none, some 10, some 11, some 9, some 7, some 3, none, some 1, some 4, some 5, some 6, some 8, some 12, some 13, some 14] (of_decide_eq_true rfl) (of_decide_eq_true rfl) rfl rfl rfl (fun H locs hP hD hS => ?_)
    refine lv_aload_n hx hb dX11_task_60 rfl (lv_at hl 2 rfl) ?_
    refine va_get (D := (dC, dI)) (ci := 11) (v := .ref r0_5) (C := RX11) (T := TX11) (N := 16) hx hb hts zn_X11_task_X11 hown hK hP 0 rfl rfl 4 (of_decide_eq_true rfl) (hts (.fieldLink RX11 27 "ShortEnough" "current" "LShortEnough$Task;") zw_X11_task_591) (fun _ h9 => h9) rfl dX11_task_61 ?_
    refine va_get (D := (dC, dI)) (ci := 9) (v := .ref r2_7) (C := RX9) (T := TX9) (N := 9) hx hb hts zn_X11_task_X9 hown hK hP 2 rfl rfl 7 (of_decide_eq_true rfl) (hts (.fieldLink RX11 107 "ShortEnough$Task" "groups" "LShortEnough$Groups;") zw_X11_task_593) (fun _ h9 => h9) rfl dX11_task_64 ?_
    refine lv_aload_n hx hb dX11_task_67 rfl (lv_at hl 2 rfl) ?_
    refine va_get (D := (dC, dI)) (ci := 11) (v := .ref r0_6) (C := RX11) (T := TX11) (N := 16) hx hb hts zn_X11_task_X11 hown hK hP 0 rfl rfl 6 (of_decide_eq_true rfl) (hts (.fieldLink RX11 34 "ShortEnough" "hand" "[I") zw_X11_task_594) (fun _ h9 => h9) rfl dX11_task_68 ?_
    refine lv_iconst (v := 0) hx hb dX11_task_71 zci_0 ?_
    obtain ⟨o_10, hqo_10, hfn⟩ := zb_s hfn
    refine zcVv (ci := 2) (rest := []) (pc' := 75) (ws' := [zV11 h0 r0_0 0 r0_2 r0_3 r0_5 r0_4 r0_6 r0_7 r0_8 r0_9 r0_10 r0_11 r0_12 r0_13 r0_14 v0_15, zV5 r0_3 r1_0 o_1.2.1 o_1.2.2.1 o_1.2.2.2.1, zV9 r0_5 o_1.2.2.2.2.1 r2_1 r2_2 r2_3 r2_4 o_1.2.2.2.2.2.1 r2_6 r2_7 r2_8, zV4 r2_6 o_1.2.2.2.2.2.2.1 o_1.2.2.2.2.2.2.2.1 r3_2 r3_3 r3_4 r3_5 r3_6 r3_7 r3_8 r3_9, zV10 r1_0 r4_0 r0_0 o_1.2.2.2.2.2.2.2.2.1 o_1.2.2.2.2.2.2.2.2.2.1 o_1.2.2.2.2.2.2.2.2.2.2.1 o_1.2.2.2.2.2.2.2.2.2.2.2.1 o_1.2.2.2.2.2.2.2.2.2.2.2.2.1 o_1.2.2.2.2.2.2.2.2.2.2.2.2.2.1, zVi r0_0 k5 1200 f5, zVi r4_0 k6 13 f6, zVi r2_1 k7 4 o_1.2.2.2.2.2.2.2.2.2.2.2.2.2.2.1, zVi r3_2 k8 14 o_1.2.2.2.2.2.2.2.2.2.2.2.2.2.2.2.1, zVi r2_2 k9 4 o_1.2.2.2.2.2.2.2.2.2.2.2.2.2.2.2.2.1, zVi r2_3 k10 4 o_1.2.2.2.2.2.2.2.2.2.2.2.2.2.2.2.2.2.1, zVi r2_4 k11 4 o_1.2.2.2.2.2.2.2.2.2.2.2.2.2.2.2.2.2.2.1, zVi r3_5 k12 14 o_1.2.2.2.2.2.2.2.2.2.2.2.2.2.2.2.2.2.2.2.1, zVi r3_8 k13 28 o_1.2.2.2.2.2.2.2.2.2.2.2.2.2.2.2.2.2.2.2.2.1, zVi r3_9 k14 28 o_1.2.2.2.2.2.2.2.2.2.2.2.2.2.2.2.2.2.2.2.2.2.1, zVi r3_3 k15 14 o_1.2.2.2.2.2.2.2.2.2.2.2.2.2.2.2.2.2.2.2.2.2.2.1, zVi r3_4 k16 14 o_1.2.2.2.2.2.2.2.2.2.2.2.2.2.2.2.2.2.2.2.2.2.2.2.1, zVi r3_7 k17 14 o_1.2.2.2.2.2.2.2.2.2.2.2.2.2.2.2.2.2.2.2.2.2.2.2.2.1, zVi r3_6 k18 14 o_1.2.2.2.2.2.2.2.2.2.2.2.2.2.2.2.2.2.2.2.2.2.2.2.2.2, zV2 r2_7 o_6.1 o_6.2.1 o_6.2.2.1 r19_3 r19_4 r19_5, zVi r19_3 k20 14 o_6.2.2.2.1, zVi r19_5 k21 14 o_6.2.2.2.2.1, zVi r19_4 k22 14 o_6.2.2.2.2.2.1, zV6 r2_8 r23_0 r23_1 r23_2, zVl r23_0 k24 14 o_6.2.2.2.2.2.2.1, zVl r23_1 k25 14 o_6.2.2.2.2.2.2.2.1, zVi r23_2 k26 14 o_6.2.2.2.2.2.2.2.2, zVi r0_6 k27 14 o_10, zV1 r0_11 r28_0 r28_1 v28_2 v28_3 r28_4 r28_5 v28_6 v28_7 v28_8 v28_9 v28_10 r28_11 r28_12 r28_13, zV3 r0_12 r29_0 r29_1 v29_2 v29_3 r29_4 r29_5 r29_6 r29_7 v29_8 r29_9 v29_10 v29_11 v29_12 v29_13 v29_14 v29_15, zV0 r0_13 r30_0 r30_1 r30_2 v30_3 v30_4, zVi r0_2 k31 5 f31]) hP hK hD hS hA ⟨hx, hb, hml, hown, hts⟩ (zf_X2_fillFree l dC dI r2_7 r0_6 0 o_6.1 o_6.2.1 o_6.2.2.1 r19_3 r19_4 r19_5 k27 f27 k22 o_6.2.2.2.2.2.1 o_10 hqo_10 H.size) (cwV 2 hts gX11_task_X2_fillFree rfl rfl rfl zhd_X2_fillFree ⟨Nat.le_of_ble_eq_true rfl, Nat.le_of_ble_eq_true rfl⟩) [19, 27, 22] rfl (of_decide_eq_true rfl) [20, 16] rfl rfl rfl rfl hl.1 rfl (Nat.le_of_ble_eq_true rfl) dX11_task_72 ⟨Nat.le_of_ble_eq_true rfl, Nat.le_of_ble_eq_true rfl⟩ [none, none, none, none, none, none, none, none, none, none, none, none, none, none, none, none, none, none, none, some 0, none, none, some 2, none, none, none, none, some 1] (of_decide_eq_true rfl) (of_decide_eq_true rfl) rfl rfl rfl (fun H locs hP hD hS => ?_)
    refine lv_aload_n hx hb dX11_task_75 rfl (lv_at hl 2 rfl) ?_
    refine va_get (D := (dC, dI)) (ci := 11) (v := .ref r0_11) (C := RX11) (T := TX11) (N := 16) hx hb hts zn_X11_task_X11 hown hK hP 0 rfl rfl 11 (of_decide_eq_true rfl) (hts (.fieldLink RX11 60 "ShortEnough" "full" "LShortEnough$FullSearch;") zw_X11_task_595) (fun _ h9 => h9) rfl dX11_task_76 ?_
    obtain ⟨o_14, hqo_14, hfn⟩ := zb_s hfn
    refine zcVv (ci := 1) (rest := []) (pc' := 82) (ws' := [zV11 h0 r0_0 0 r0_2 r0_3 r0_5 r0_4 r0_6 r0_7 r0_8 r0_9 r0_10 r0_11 r0_12 r0_13 r0_14 v0_15, zV5 r0_3 r1_0 o_1.2.1 o_1.2.2.1 o_1.2.2.2.1, zV9 r0_5 o_1.2.2.2.2.1 r2_1 r2_2 r2_3 r2_4 o_1.2.2.2.2.2.1 r2_6 r2_7 r2_8, zV4 r2_6 o_1.2.2.2.2.2.2.1 o_1.2.2.2.2.2.2.2.1 r3_2 r3_3 r3_4 r3_5 r3_6 r3_7 r3_8 r3_9, zV10 r1_0 r4_0 r0_0 o_1.2.2.2.2.2.2.2.2.1 o_1.2.2.2.2.2.2.2.2.2.1 o_1.2.2.2.2.2.2.2.2.2.2.1 o_1.2.2.2.2.2.2.2.2.2.2.2.1 o_1.2.2.2.2.2.2.2.2.2.2.2.2.1 o_1.2.2.2.2.2.2.2.2.2.2.2.2.2.1, zVi r0_0 k5 1200 f5, zVi r4_0 k6 13 f6, zVi r2_1 k7 4 o_1.2.2.2.2.2.2.2.2.2.2.2.2.2.2.1, zVi r3_2 k8 14 o_1.2.2.2.2.2.2.2.2.2.2.2.2.2.2.2.1, zVi r2_2 k9 4 o_1.2.2.2.2.2.2.2.2.2.2.2.2.2.2.2.2.1, zVi r2_3 k10 4 o_1.2.2.2.2.2.2.2.2.2.2.2.2.2.2.2.2.2.1, zVi r2_4 k11 4 o_1.2.2.2.2.2.2.2.2.2.2.2.2.2.2.2.2.2.2.1, zVi r3_5 k12 14 o_1.2.2.2.2.2.2.2.2.2.2.2.2.2.2.2.2.2.2.2.1, zVi r3_8 k13 28 o_1.2.2.2.2.2.2.2.2.2.2.2.2.2.2.2.2.2.2.2.2.1, zVi r3_9 k14 28 o_1.2.2.2.2.2.2.2.2.2.2.2.2.2.2.2.2.2.2.2.2.2.1, zVi r3_3 k15 14 o_1.2.2.2.2.2.2.2.2.2.2.2.2.2.2.2.2.2.2.2.2.2.2.1, zVi r3_4 k16 14 o_1.2.2.2.2.2.2.2.2.2.2.2.2.2.2.2.2.2.2.2.2.2.2.2.1, zVi r3_7 k17 14 o_1.2.2.2.2.2.2.2.2.2.2.2.2.2.2.2.2.2.2.2.2.2.2.2.2.1, zVi r3_6 k18 14 o_1.2.2.2.2.2.2.2.2.2.2.2.2.2.2.2.2.2.2.2.2.2.2.2.2.2, zV2 r2_7 o_6.1 o_6.2.1 o_6.2.2.1 r19_3 r19_4 r19_5, zVi r19_3 k20 14 o_6.2.2.2.1, zVi r19_5 k21 14 o_6.2.2.2.2.1, zVi r19_4 k22 14 o_6.2.2.2.2.2.1, zV6 r2_8 r23_0 r23_1 r23_2, zVl r23_0 k24 14 o_6.2.2.2.2.2.2.1, zVl r23_1 k25 14 o_6.2.2.2.2.2.2.2.1, zVi r23_2 k26 14 o_6.2.2.2.2.2.2.2.2, zVi r0_6 k27 14 o_10, zV1 r0_11 r28_0 r28_1 o_14.1 v28_3 r28_4 r28_5 v28_6 v28_7 v28_8 o_14.2 v28_10 r28_11 r28_12 r28_13, zV3 r0_12 r29_0 r29_1 v29_2 v29_3 r29_4 r29_5 r29_6 r29_7 v29_8 r29_9 v29_10 v29_11 v29_12 v29_13 v29_14 v29_15, zV0 r0_13 r30_0 r30_1 r30_2 v30_3 v30_4, zVi r0_2 k31 5 f31]) hP hK hD hS hA ⟨hx, hb, hml, hown, hts⟩ (zf_X1_forget l dC dI r0_11 r28_0 r28_1 v28_2 v28_3 r28_4 r28_5 v28_6 v28_7 v28_8 v28_9 v28_10 r28_11 r28_12 r28_13 o_14 hqo_14 H.size) (cwV 0 hts gX11_task_X1_forget rfl rfl rfl zhd_X1_forget ⟨Nat.le_of_ble_eq_true rfl, Nat.le_of_ble_eq_true rfl⟩) [28] rfl (of_decide_eq_true rfl) [] rfl rfl rfl rfl hl.1 rfl (Nat.le_of_ble_eq_true rfl) dX11_task_79 ⟨Nat.le_of_ble_eq_true rfl, Nat.le_of_ble_eq_true rfl⟩ [none, none, none, none, none, none, none, none, none, none, none, none, none, none, none, none, none, none, none, none, none, none, none, none, none, none, none, none, some 0] (of_decide_eq_true rfl) (of_decide_eq_true rfl) rfl rfl rfl (fun H locs hP hD hS => ?_)
    refine lv_aload_n hx hb dX11_task_82 rfl (lv_at hl 2 rfl) ?_
    refine va_get (D := (dC, dI)) (ci := 11) (v := .ref r0_12) (C := RX11) (T := TX11) (N := 16) hx hb hts zn_X11_task_X11 hown hK hP 0 rfl rfl 12 (of_decide_eq_true rfl) (hts (.fieldLink RX11 67 "ShortEnough" "local" "LShortEnough$LocalSearch;") zw_X11_task_596) (fun _ h9 => h9) rfl dX11_task_83 ?_
    obtain ⟨o_18, hqo_18, hfn⟩ := zb_s hfn
    refine zcVv (ci := 3) (rest := []) (pc' := 89) (ws' := [zV11 h0 r0_0 0 r0_2 r0_3 r0_5 r0_4 r0_6 r0_7 r0_8 r0_9 r0_10 r0_11 r0_12 r0_13 r0_14 v0_15, zV5 r0_3 r1_0 o_1.2.1 o_1.2.2.1 o_1.2.2.2.1, zV9 r0_5 o_1.2.2.2.2.1 r2_1 r2_2 r2_3 r2_4 o_1.2.2.2.2.2.1 r2_6 r2_7 r2_8, zV4 r2_6 o_1.2.2.2.2.2.2.1 o_1.2.2.2.2.2.2.2.1 r3_2 r3_3 r3_4 r3_5 r3_6 r3_7 r3_8 r3_9, zV10 r1_0 r4_0 r0_0 o_1.2.2.2.2.2.2.2.2.1 o_1.2.2.2.2.2.2.2.2.2.1 o_1.2.2.2.2.2.2.2.2.2.2.1 o_1.2.2.2.2.2.2.2.2.2.2.2.1 o_1.2.2.2.2.2.2.2.2.2.2.2.2.1 o_1.2.2.2.2.2.2.2.2.2.2.2.2.2.1, zVi r0_0 k5 1200 f5, zVi r4_0 k6 13 f6, zVi r2_1 k7 4 o_1.2.2.2.2.2.2.2.2.2.2.2.2.2.2.1, zVi r3_2 k8 14 o_1.2.2.2.2.2.2.2.2.2.2.2.2.2.2.2.1, zVi r2_2 k9 4 o_1.2.2.2.2.2.2.2.2.2.2.2.2.2.2.2.2.1, zVi r2_3 k10 4 o_1.2.2.2.2.2.2.2.2.2.2.2.2.2.2.2.2.2.1, zVi r2_4 k11 4 o_1.2.2.2.2.2.2.2.2.2.2.2.2.2.2.2.2.2.2.1, zVi r3_5 k12 14 o_1.2.2.2.2.2.2.2.2.2.2.2.2.2.2.2.2.2.2.2.1, zVi r3_8 k13 28 o_1.2.2.2.2.2.2.2.2.2.2.2.2.2.2.2.2.2.2.2.2.1, zVi r3_9 k14 28 o_1.2.2.2.2.2.2.2.2.2.2.2.2.2.2.2.2.2.2.2.2.2.1, zVi r3_3 k15 14 o_1.2.2.2.2.2.2.2.2.2.2.2.2.2.2.2.2.2.2.2.2.2.2.1, zVi r3_4 k16 14 o_1.2.2.2.2.2.2.2.2.2.2.2.2.2.2.2.2.2.2.2.2.2.2.2.1, zVi r3_7 k17 14 o_1.2.2.2.2.2.2.2.2.2.2.2.2.2.2.2.2.2.2.2.2.2.2.2.2.1, zVi r3_6 k18 14 o_1.2.2.2.2.2.2.2.2.2.2.2.2.2.2.2.2.2.2.2.2.2.2.2.2.2, zV2 r2_7 o_6.1 o_6.2.1 o_6.2.2.1 r19_3 r19_4 r19_5, zVi r19_3 k20 14 o_6.2.2.2.1, zVi r19_5 k21 14 o_6.2.2.2.2.1, zVi r19_4 k22 14 o_6.2.2.2.2.2.1, zV6 r2_8 r23_0 r23_1 r23_2, zVl r23_0 k24 14 o_6.2.2.2.2.2.2.1, zVl r23_1 k25 14 o_6.2.2.2.2.2.2.2.1, zVi r23_2 k26 14 o_6.2.2.2.2.2.2.2.2, zVi r0_6 k27 14 o_10, zV1 r0_11 r28_0 r28_1 o_14.1 v28_3 r28_4 r28_5 v28_6 v28_7 v28_8 o_14.2 v28_10 r28_11 r28_12 r28_13, zV3 r0_12 r29_0 r29_1 o_18 v29_3 r29_4 r29_5 r29_6 r29_7 v29_8 r29_9 v29_10 v29_11 v29_12 v29_13 v29_14 v29_15, zV0 r0_13 r30_0 r30_1 r30_2 v30_3 v30_4, zVi r0_2 k31 5 f31]) hP hK hD hS hA ⟨hx, hb, hml, hown, hts⟩ (zf_X3_forget l dC dI r0_12 r29_0 r29_1 v29_2 v29_3 r29_4 r29_5 r29_6 r29_7 v29_8 r29_9 v29_10 v29_11 v29_12 v29_13 v29_14 v29_15 o_18 hqo_18 H.size) (cwV 0 hts gX11_task_X3_forget rfl rfl rfl zhd_X3_forget ⟨Nat.le_of_ble_eq_true rfl, Nat.le_of_ble_eq_true rfl⟩) [29] rfl (of_decide_eq_true rfl) [] rfl rfl rfl rfl hl.1 rfl (Nat.le_of_ble_eq_true rfl) dX11_task_86 ⟨Nat.le_of_ble_eq_true rfl, Nat.le_of_ble_eq_true rfl⟩ [none, none, none, none, none, none, none, none, none, none, none, none, none, none, none, none, none, none, none, none, none, none, none, none, none, none, none, none, none, some 0] (of_decide_eq_true rfl) (of_decide_eq_true rfl) rfl rfl rfl (fun H locs hP hD hS => ?_)
    refine lv_aload_n hx hb dX11_task_89 rfl (lv_at hl 2 rfl) ?_
    refine va_get (D := (dC, dI)) (ci := 11) (v := .ref r0_13) (C := RX11) (T := TX11) (N := 16) hx hb hts zn_X11_task_X11 hown hK hP 0 rfl rfl 13 (of_decide_eq_true rfl) (hts (.fieldLink RX11 74 "ShortEnough" "reader" "LShortEnough$CertificateReader;") zw_X11_task_597) (fun _ h9 => h9) rfl dX11_task_90 ?_
    obtain ⟨o_22, hqo_22, hfn⟩ := zb_s hfn
    refine zcVv (ci := 0) (rest := []) (pc' := 96) (ws' := [zV11 h0 r0_0 0 r0_2 r0_3 r0_5 r0_4 r0_6 r0_7 r0_8 r0_9 r0_10 r0_11 r0_12 r0_13 r0_14 v0_15, zV5 r0_3 r1_0 o_1.2.1 o_1.2.2.1 o_1.2.2.2.1, zV9 r0_5 o_1.2.2.2.2.1 r2_1 r2_2 r2_3 r2_4 o_1.2.2.2.2.2.1 r2_6 r2_7 r2_8, zV4 r2_6 o_1.2.2.2.2.2.2.1 o_1.2.2.2.2.2.2.2.1 r3_2 r3_3 r3_4 r3_5 r3_6 r3_7 r3_8 r3_9, zV10 r1_0 r4_0 r0_0 o_1.2.2.2.2.2.2.2.2.1 o_1.2.2.2.2.2.2.2.2.2.1 o_1.2.2.2.2.2.2.2.2.2.2.1 o_1.2.2.2.2.2.2.2.2.2.2.2.1 o_1.2.2.2.2.2.2.2.2.2.2.2.2.1 o_1.2.2.2.2.2.2.2.2.2.2.2.2.2.1, zVi r0_0 k5 1200 f5, zVi r4_0 k6 13 f6, zVi r2_1 k7 4 o_1.2.2.2.2.2.2.2.2.2.2.2.2.2.2.1, zVi r3_2 k8 14 o_1.2.2.2.2.2.2.2.2.2.2.2.2.2.2.2.1, zVi r2_2 k9 4 o_1.2.2.2.2.2.2.2.2.2.2.2.2.2.2.2.2.1, zVi r2_3 k10 4 o_1.2.2.2.2.2.2.2.2.2.2.2.2.2.2.2.2.2.1, zVi r2_4 k11 4 o_1.2.2.2.2.2.2.2.2.2.2.2.2.2.2.2.2.2.2.1, zVi r3_5 k12 14 o_1.2.2.2.2.2.2.2.2.2.2.2.2.2.2.2.2.2.2.2.1, zVi r3_8 k13 28 o_1.2.2.2.2.2.2.2.2.2.2.2.2.2.2.2.2.2.2.2.2.1, zVi r3_9 k14 28 o_1.2.2.2.2.2.2.2.2.2.2.2.2.2.2.2.2.2.2.2.2.2.1, zVi r3_3 k15 14 o_1.2.2.2.2.2.2.2.2.2.2.2.2.2.2.2.2.2.2.2.2.2.2.1, zVi r3_4 k16 14 o_1.2.2.2.2.2.2.2.2.2.2.2.2.2.2.2.2.2.2.2.2.2.2.2.1, zVi r3_7 k17 14 o_1.2.2.2.2.2.2.2.2.2.2.2.2.2.2.2.2.2.2.2.2.2.2.2.2.1, zVi r3_6 k18 14 o_1.2.2.2.2.2.2.2.2.2.2.2.2.2.2.2.2.2.2.2.2.2.2.2.2.2, zV2 r2_7 o_6.1 o_6.2.1 o_6.2.2.1 r19_3 r19_4 r19_5, zVi r19_3 k20 14 o_6.2.2.2.1, zVi r19_5 k21 14 o_6.2.2.2.2.1, zVi r19_4 k22 14 o_6.2.2.2.2.2.1, zV6 r2_8 r23_0 r23_1 r23_2, zVl r23_0 k24 14 o_6.2.2.2.2.2.2.1, zVl r23_1 k25 14 o_6.2.2.2.2.2.2.2.1, zVi r23_2 k26 14 o_6.2.2.2.2.2.2.2.2, zVi r0_6 k27 14 o_10, zV1 r0_11 r28_0 r28_1 o_14.1 v28_3 r28_4 r28_5 v28_6 v28_7 v28_8 o_14.2 v28_10 r28_11 r28_12 r28_13, zV3 r0_12 r29_0 r29_1 o_18 v29_3 r29_4 r29_5 r29_6 r29_7 v29_8 r29_9 v29_10 v29_11 v29_12 v29_13 v29_14 v29_15, zV0 r0_13 r30_0 r30_1 r30_2 o_22.1 o_22.2, zVi r0_2 k31 5 f31]) hP hK hD hS hA ⟨hx, hb, hml, hown, hts⟩ (zf_X0_forget l dC dI r0_13 r30_0 r30_1 r30_2 v30_3 v30_4 o_22 hqo_22 H.size) (cwV 0 hts gX11_task_X0_forget rfl rfl rfl zhd_X0_forget ⟨Nat.le_of_ble_eq_true rfl, Nat.le_of_ble_eq_true rfl⟩) [30] rfl (of_decide_eq_true rfl) [] rfl rfl rfl rfl hl.1 rfl (Nat.le_of_ble_eq_true rfl) dX11_task_93 ⟨Nat.le_of_ble_eq_true rfl, Nat.le_of_ble_eq_true rfl⟩ [none, none, none, none, none, none, none, none, none, none, none, none, none, none, none, none, none, none, none, none, none, none, none, none, none, none, none, none, none, none, some 0] (of_decide_eq_true rfl) (of_decide_eq_true rfl) rfl rfl rfl (fun H locs hP hD hS => ?_)
    refine lv_aload_n hx hb dX11_task_96 rfl (lv_at hl 2 rfl) ?_
    refine va_get (D := (dC, dI)) (ci := 11) (v := .ref r0_5) (C := RX11) (T := TX11) (N := 16) hx hb hts zn_X11_task_X11 hown hK hP 0 rfl rfl 4 (of_decide_eq_true rfl) (hts (.fieldLink RX11 27 "ShortEnough" "current" "LShortEnough$Task;") zw_X11_task_591) (fun _ h9 => h9) rfl dX11_task_97 ?_
    refine va_get (D := (dC, dI)) (ci := 9) (v := .ref r2_6) (C := RX9) (T := TX9) (N := 9) hx hb hts zn_X11_task_X9 hown hK hP 2 rfl rfl 6 (of_decide_eq_true rfl) (hts (.fieldLink RX11 122 "ShortEnough$Task" "numbers" "LShortEnough$Numbers;") zw_X11_task_598) (fun _ h9 => h9) rfl dX11_task_100 ?_
    refine va_get (D := (dC, dI)) (ci := 4) (v := .int o_1.2.2.2.2.2.2.1) (C := RX4) (T := TX4) (N := 10) hx hb hts zn_X11_task_X4 hown hK hP 3 rfl rfl 0 (of_decide_eq_true rfl) (hts (.fieldLink RX11 126 "ShortEnough$Numbers" "count" "I") zw_X11_task_600) (fun _ h9 => h9) rfl dX11_task_103 ?_
    have ho := Option.some.inj hfn
    subst ho
    exact zri hx hb hr hK hP hD hS hQ rfl hlocks dX11_task_106
  have hfn := (if_pos c_5).symm.trans hfn
  refine lv_aload_n hx hb dX11_task_29 rfl (lv_at hl 1 rfl) ?_
  refine lv_iconst (v := 1) hx hb dX11_task_30 zci_1 ?_
  obtain ⟨o_26, hqo_26, hfn⟩ := zb_s hfn
  refine zcVi (ci := 11) (rest := []) (pc' := 34) (ws' := [zV11 h0 r0_0 0 r0_2 r0_3 r0_4 r0_5 r0_6 r0_7 r0_8 r0_9 r0_10 r0_11 r0_12 r0_13 r0_14 v0_15, zV5 r0_3 r1_0 o_1.2.1 o_1.2.2.1 o_1.2.2.2.1, zV9 r0_5 o_1.2.2.2.2.1 r2_1 r2_2 r2_3 r2_4 o_1.2.2.2.2.2.1 r2_6 r2_7 r2_8, zV4 r2_6 o_1.2.2.2.2.2.2.1 o_1.2.2.2.2.2.2.2.1 r3_2 r3_3 r3_4 r3_5 r3_6 r3_7 r3_8 r3_9, zV10 r1_0 r4_0 r0_0 o_1.2.2.2.2.2.2.2.2.1 o_1.2.2.2.2.2.2.2.2.2.1 o_1.2.2.2.2.2.2.2.2.2.2.1 o_1.2.2.2.2.2.2.2.2.2.2.2.1 o_1.2.2.2.2.2.2.2.2.2.2.2.2.1 o_1.2.2.2.2.2.2.2.2.2.2.2.2.2.1, zVi r0_0 k5 1200 f5, zVi r4_0 k6 13 f6, zVi r2_1 k7 4 o_1.2.2.2.2.2.2.2.2.2.2.2.2.2.2.1, zVi r3_2 k8 14 o_1.2.2.2.2.2.2.2.2.2.2.2.2.2.2.2.1, zVi r2_2 k9 4 o_1.2.2.2.2.2.2.2.2.2.2.2.2.2.2.2.2.1, zVi r2_3 k10 4 o_1.2.2.2.2.2.2.2.2.2.2.2.2.2.2.2.2.2.1, zVi r2_4 k11 4 o_1.2.2.2.2.2.2.2.2.2.2.2.2.2.2.2.2.2.2.1, zVi r3_5 k12 14 o_1.2.2.2.2.2.2.2.2.2.2.2.2.2.2.2.2.2.2.2.1, zVi r3_8 k13 28 o_1.2.2.2.2.2.2.2.2.2.2.2.2.2.2.2.2.2.2.2.2.1, zVi r3_9 k14 28 o_1.2.2.2.2.2.2.2.2.2.2.2.2.2.2.2.2.2.2.2.2.2.1, zVi r3_3 k15 14 o_1.2.2.2.2.2.2.2.2.2.2.2.2.2.2.2.2.2.2.2.2.2.2.1, zVi r3_4 k16 14 o_1.2.2.2.2.2.2.2.2.2.2.2.2.2.2.2.2.2.2.2.2.2.2.2.1, zVi r3_7 k17 14 o_1.2.2.2.2.2.2.2.2.2.2.2.2.2.2.2.2.2.2.2.2.2.2.2.2.1, zVi r3_6 k18 14 o_1.2.2.2.2.2.2.2.2.2.2.2.2.2.2.2.2.2.2.2.2.2.2.2.2.2, zV2 r2_7 v19_0 v19_1 v19_2 r19_3 r19_4 r19_5, zVi r19_3 k20 14 f20, zVi r19_5 k21 14 f21, zVi r19_4 k22 14 f22, zV6 r2_8 r23_0 r23_1 r23_2, zVl r23_0 k24 14 f24, zVl r23_1 k25 14 f25, zVi r23_2 k26 14 f26, zVi r0_6 k27 14 f27, zV1 r0_11 r28_0 r28_1 v28_2 v28_3 r28_4 r28_5 v28_6 v28_7 v28_8 v28_9 v28_10 r28_11 r28_12 r28_13, zV3 r0_12 r29_0 r29_1 v29_2 v29_3 r29_4 r29_5 r29_6 r29_7 v29_8 r29_9 v29_10 v29_11 v29_12 v29_13 v29_14 v29_15, zV0 r0_13 r30_0 r30_1 r30_2 v30_3 v30_4, zVi r0_2 k31 5 o_26.2]) hP hK hD hS hA ⟨hx, hb, hml, hown, hts⟩ (zf_X11_refuse l dC dI h0 1 r0_0 0 r0_2 r0_3 r0_4 r0_5 r0_6 r0_7 r0_8 r0_9 r0_10 r0_11 r0_12 r0_13 r0_14 v0_15 k31 f31 o_26 hqo_26 H.size) (cwV 1 hts gX11_task_X11_refuse rfl rfl rfl zhd_X11_refuse ⟨Nat.le_of_ble_eq_true rfl, Nat.le_of_ble_eq_true rfl⟩) [0, 31] rfl (of_decide_eq_true rfl) [21] rfl rfl rfl rfl hl.1 rfl (Nat.le_of_ble_eq_true rfl) dX11_task_31 ⟨Nat.le_of_ble_eq_true rfl, Nat.le_of_ble_eq_true rfl⟩ [some 0, none, none, none, none, none, none, none, none, none, none, none, none, none, none, none, none, none, none, none, none, none, none, none, none, none, none, none, none, none, none, some 1] (of_decide_eq_true rfl) (of_decide_eq_true rfl) rfl rfl rfl (fun H locs hP hD hS => ?_)
  have ho := Option.some.inj hfn
  subst ho
  exact zri hx hb hr hK hP hD hS hQ rfl hlocks dX11_task_34
theorem zn_X11_fault_X11 : ∀ w ∈ wsX110, w ∈ wsX11_fault := fun _ h => List.mem_cons_of_mem _ (List.mem_append_left _ (List.mem_append_right _ h))
theorem zw_X11_fault_602 : Cond.fieldLink RX11 20 "ShortEnough" "parser" "LShortEnough$Parser;" ∈ wsX11_fault := List.mem_of_getElem? (i := 1) (by decide +kernel)
theorem zn_X11_fault_X5 : ∀ w ∈ wsX50, w ∈ wsX11_fault := fun _ h => List.mem_cons_of_mem _ (List.mem_append_right _ h)
theorem zw_X11_fault_604 : Cond.fieldLink RX11 134 "ShortEnough$Parser" "faultPlace" "I" ∈ wsX11_fault := List.mem_of_getElem? (i := 3) (by decide +kernel)
theorem zw_X11_fault_605 : Cond.fieldLink RX11 131 "ShortEnough$Parser" "faultKind" "I" ∈ wsX11_fault := List.mem_of_getElem? (i := 2) (by decide +kernel)
set_option maxHeartbeats 4000000 in
set_option maxRecDepth 100000 in
theorem zf_X11_fault (l : Launch) (dC : Nat → ClassId) (dI : Nat → Nat → Nat) (h0 : Nat) (p1 : Int32) (r0_0 : Nat) (v0_1 : Int32) (r0_2 : Nat) (r0_3 : Nat) (r0_4 : Nat) (r0_5 : Nat) (r0_6 : Nat) (r0_7 : Nat) (r0_8 : Nat) (r0_9 : Nat) (r0_10 : Nat) (r0_11 : Nat) (r0_12 : Nat) (r0_13 : Nat) (r0_14 : Nat) (v0_15 : Int32) (r1_0 : Nat) (v1_1 : Int32) (v1_2 : Int32) (v1_3 : Int32) (o : Int32) (hfn : fn_X11_fault p1 v1_2 v1_3 = some o) (sz : Nat) : zMi l yX11_fault wsX11_fault ({ frames := 0, cells := 0, slots := 0, locals := 0 }) (dC, dI) vwCl [.ref h0, .int p1] [zV11 h0 r0_0 v0_1 r0_2 r0_3 r0_4 r0_5 r0_6 r0_7 r0_8 r0_9 r0_10 r0_11 r0_12 r0_13 r0_14 v0_15, zV5 r0_3 r1_0 v1_1 v1_2 v1_3] [] (fun r _ => r = o) [zV11 h0 r0_0 v0_1 r0_2 r0_3 r0_4 r0_5 r0_6 r0_7 r0_8 r0_9 r0_10 r0_11 r0_12 r0_13 r0_14 v0_15, zV5 r0_3 r1_0 v1_1 v1_2 v1_3] [] sz := by
  refine zgoi (cc := cX11_fault) (maxL := 2) (ret := (some .int)) (C0 := RX11) (lv0 := [(0, .ref h0), (1, .int p1)]) zpl_X11 rfl rfl rfl (Nat.le_of_ble_eq_true rfl) ?_
  intro p e s m below meth c A ls Q hx hb hr hts hown hlocks hml hP hK hD hA hS hl hQ
  unfold fn_X11_fault at hfn
  refine lv_iload_n hx hb dX11_fault_0 rfl (lv_at hl 1 rfl) ?_
  refine lv_if_ne (tgt := 12) hx hb dX11_fault_1 (of_decide_eq_true rfl) (fun c_1 => ?_) (fun c_1 => ?_)
  · have hfn := (if_neg c_1).symm.trans hfn
    refine lv_iload_n hx hb dX11_fault_12 rfl (lv_at hl 1 rfl) ?_
    refine lv_iconst (v := 1) hx hb dX11_fault_13 zci_1 ?_
    refine lv_icmp_ne (tgt := 27) hx hb dX11_fault_14 (of_decide_eq_true rfl) (fun c_2 => ?_) (fun c_2 => ?_)
    · have hfn := (if_neg c_2).symm.trans hfn
      refine lv_iconst (v := (-1)) hx hb dX11_fault_27 zci_m1 ?_
      have ho := Option.some.inj hfn
      subst ho
      exact zri hx hb hr hK hP hD hS hQ rfl hlocks dX11_fault_28
    have hfn := (if_pos c_2).symm.trans hfn
    refine lv_aload_n hx hb dX11_fault_17 rfl (lv_at hl 0 rfl) ?_
    refine va_get (D := (dC, dI)) (ci := 11) (v := .ref r0_3) (C := RX11) (T := TX11) (N := 16) hx hb hts zn_X11_fault_X11 hown hK hP 0 rfl rfl 3 (of_decide_eq_true rfl) (hts (.fieldLink RX11 20 "ShortEnough" "parser" "LShortEnough$Parser;") zw_X11_fault_602) (fun _ h9 => h9) rfl dX11_fault_18 ?_
    refine va_get (D := (dC, dI)) (ci := 5) (v := .int v1_3) (C := RX5) (T := TX5) (N := 4) hx hb hts zn_X11_fault_X5 hown hK hP 1 rfl rfl 3 (of_decide_eq_true rfl) (hts (.fieldLink RX11 134 "ShortEnough$Parser" "faultPlace" "I") zw_X11_fault_604) (fun _ h9 => h9) rfl dX11_fault_21 ?_
    refine lv_goto (tgt := 28) hx hb dX11_fault_24 (of_decide_eq_true rfl) ?_
    have ho := Option.some.inj hfn
    subst ho
    exact zri hx hb hr hK hP hD hS hQ rfl hlocks dX11_fault_28
  have hfn := (if_pos c_1).symm.trans hfn
  refine lv_aload_n hx hb dX11_fault_4 rfl (lv_at hl 0 rfl) ?_
  refine va_get (D := (dC, dI)) (ci := 11) (v := .ref r0_3) (C := RX11) (T := TX11) (N := 16) hx hb hts zn_X11_fault_X11 hown hK hP 0 rfl rfl 3 (of_decide_eq_true rfl) (hts (.fieldLink RX11 20 "ShortEnough" "parser" "LShortEnough$Parser;") zw_X11_fault_602) (fun _ h9 => h9) rfl dX11_fault_5 ?_
  refine va_get (D := (dC, dI)) (ci := 5) (v := .int v1_2) (C := RX5) (T := TX5) (N := 4) hx hb hts zn_X11_fault_X5 hown hK hP 1 rfl rfl 2 (of_decide_eq_true rfl) (hts (.fieldLink RX11 131 "ShortEnough$Parser" "faultKind" "I") zw_X11_fault_605) (fun _ h9 => h9) rfl dX11_fault_8 ?_
  have ho := Option.some.inj hfn
  subst ho
  exact zri hx hb hr hK hP hD hS hQ rfl hlocks dX11_fault_11
theorem zn_X11_has_X11 : ∀ w ∈ wsX110, w ∈ wsX11_has := fun _ h => List.mem_cons_of_mem _ (List.mem_append_left _ (List.mem_append_left _ (List.mem_append_left _ (List.mem_append_right _ h))))
theorem zw_X11_has_607 : Cond.fieldLink RX11 27 "ShortEnough" "current" "LShortEnough$Task;" ∈ wsX11_has := List.mem_of_getElem? (i := 1) (by decide +kernel)
theorem zn_X11_has_X9 : ∀ w ∈ wsX90, w ∈ wsX11_has := fun _ h => List.mem_cons_of_mem _ (List.mem_append_left _ (List.mem_append_left _ (List.mem_append_right _ h)))
theorem zw_X11_has_609 : Cond.fieldLink RX11 122 "ShortEnough$Task" "numbers" "LShortEnough$Numbers;" ∈ wsX11_has := List.mem_of_getElem? (i := 2) (by decide +kernel)
theorem zn_X11_has_X4 : ∀ w ∈ wsX40, w ∈ wsX11_has := fun _ h => List.mem_cons_of_mem _ (List.mem_append_left _ (List.mem_append_right _ h))
theorem zw_X11_has_611 : Cond.fieldLink RX11 126 "ShortEnough$Numbers" "count" "I" ∈ wsX11_has := List.mem_of_getElem? (i := 3) (by decide +kernel)
theorem zw_X11_has_612 : Cond.fieldLink RX11 137 "ShortEnough$Task" "formats" "I" ∈ wsX11_has := List.mem_of_getElem? (i := 4) (by decide +kernel)
theorem zw_X11_has_613 : Cond.fieldLink RX11 140 "ShortEnough$Numbers" "inputs" "I" ∈ wsX11_has := List.mem_of_getElem? (i := 5) (by decide +kernel)
theorem zw_X11_has_614 : Cond.fieldLink RX11 107 "ShortEnough$Task" "groups" "LShortEnough$Groups;" ∈ wsX11_has := List.mem_of_getElem? (i := 6) (by decide +kernel)
theorem zn_X11_has_X2 : ∀ w ∈ wsX20, w ∈ wsX11_has := fun _ h => List.mem_cons_of_mem _ (List.mem_append_right _ h)
theorem zw_X11_has_616 : Cond.fieldLink RX11 146 "ShortEnough$Groups" "count" "I" ∈ wsX11_has := List.mem_of_getElem? (i := 7) (by decide +kernel)
theorem zw_X11_has_617 : Cond.fieldLink RX11 147 "ShortEnough$Groups" "free" "I" ∈ wsX11_has := List.mem_of_getElem? (i := 8) (by decide +kernel)
theorem zw_X11_has_618 : Cond.fieldLink RX11 150 "ShortEnough$Task" "castPrice" "I" ∈ wsX11_has := List.mem_of_getElem? (i := 9) (by decide +kernel)
theorem zw_X11_has_619 : Cond.fieldLink RX11 85 "ShortEnough" "seedNow" "I" ∈ wsX11_has := List.mem_of_getElem? (i := 10) (by decide +kernel)
set_option maxHeartbeats 4000000 in
set_option maxRecDepth 100000 in
theorem zf_X11_has (l : Launch) (dC : Nat → ClassId) (dI : Nat → Nat → Nat) (h0 : Nat) (p1 : Int32) (r0_0 : Nat) (v0_1 : Int32) (r0_2 : Nat) (r0_3 : Nat) (r0_4 : Nat) (r0_5 : Nat) (r0_6 : Nat) (r0_7 : Nat) (r0_8 : Nat) (r0_9 : Nat) (r0_10 : Nat) (r0_11 : Nat) (r0_12 : Nat) (r0_13 : Nat) (r0_14 : Nat) (v0_15 : Int32) (v1_0 : Int32) (r1_1 : Nat) (r1_2 : Nat) (r1_3 : Nat) (r1_4 : Nat) (v1_5 : Int32) (r1_6 : Nat) (r1_7 : Nat) (r1_8 : Nat) (v2_0 : Int32) (v2_1 : Int32) (r2_2 : Nat) (r2_3 : Nat) (r2_4 : Nat) (r2_5 : Nat) (r2_6 : Nat) (r2_7 : Nat) (r2_8 : Nat) (r2_9 : Nat) (k3 : Nat) (f3 : Nat → Int32) (v4_0 : Int32) (v4_1 : Int32) (v4_2 : Int32) (r4_3 : Nat) (r4_4 : Nat) (r4_5 : Nat) (o : Int32) (hfn : fn_X11_has p1 v0_15 v1_0 v1_5 v2_0 v2_1 f3 v4_0 v4_1 = some o) (sz : Nat) : zMi l yX11_has wsX11_has ({ frames := 1, cells := 0, slots := 0, locals := 23 }) (dC, dI) vwCl [.ref h0, .int p1] [zV11 h0 r0_0 v0_1 r0_2 r0_3 r0_4 r0_5 r0_6 r0_7 r0_8 r0_9 r0_10 r0_11 r0_12 r0_13 r0_14 v0_15, zV9 r0_4 v1_0 r1_1 r1_2 r1_3 r1_4 v1_5 r1_6 r1_7 r1_8, zV4 r1_6 v2_0 v2_1 r2_2 r2_3 r2_4 r2_5 r2_6 r2_7 r2_8 r2_9, zVi r2_5 k3 14 f3, zV2 r1_7 v4_0 v4_1 v4_2 r4_3 r4_4 r4_5] [(k3, .int)] (fun r _ => r = o) [zV11 h0 r0_0 v0_1 r0_2 r0_3 r0_4 r0_5 r0_6 r0_7 r0_8 r0_9 r0_10 r0_11 r0_12 r0_13 r0_14 v0_15, zV9 r0_4 v1_0 r1_1 r1_2 r1_3 r1_4 v1_5 r1_6 r1_7 r1_8, zV4 r1_6 v2_0 v2_1 r2_2 r2_3 r2_4 r2_5 r2_6 r2_7 r2_8 r2_9, zVi r2_5 k3 14 f3, zV2 r1_7 v4_0 v4_1 v4_2 r4_3 r4_4 r4_5] [(k3, .int)] sz := by
  refine zgoi (cc := cX11_has) (maxL := 2) (ret := (some .int)) (C0 := RX11) (lv0 := [(0, .ref h0), (1, .int p1)]) zpl_X11 rfl rfl rfl (Nat.le_of_ble_eq_true rfl) ?_
  intro p e s m below meth c A ls Q hx hb hr hts hown hlocks hml hP hK hD hA hS hl hQ
  unfold fn_X11_has at hfn
  refine lv_iload_n hx hb dX11_has_0 rfl (lv_at hl 1 rfl) ?_
  by_cases c_1 : p1 = 0
  · have hfn := (if_pos c_1).symm.trans hfn
    refine W.eq (g2 := F0 m 1 ls [.int 0]) (by rw [c_1]) ?_
    refine lv_tableIn (tgt := 48) (off := 47) hx hb dX11_has_1 (by decide +kernel) (by decide +kernel) (by decide +kernel) (of_decide_eq_true rfl) ?_
    refine lv_aload_n hx hb dX11_has_48 rfl (lv_at hl 0 rfl) ?_
    refine va_get (D := (dC, dI)) (ci := 11) (v := .ref r0_4) (C := RX11) (T := TX11) (N := 16) hx hb hts zn_X11_has_X11 hown hK hP 0 rfl rfl 4 (of_decide_eq_true rfl) (hts (.fieldLink RX11 27 "ShortEnough" "current" "LShortEnough$Task;") zw_X11_has_607) (fun _ h9 => h9) rfl dX11_has_49 ?_
    refine va_get (D := (dC, dI)) (ci := 9) (v := .ref r1_6) (C := RX9) (T := TX9) (N := 9) hx hb hts zn_X11_has_X9 hown hK hP 1 rfl rfl 6 (of_decide_eq_true rfl) (hts (.fieldLink RX11 122 "ShortEnough$Task" "numbers" "LShortEnough$Numbers;") zw_X11_has_609) (fun _ h9 => h9) rfl dX11_has_52 ?_
    refine va_get (D := (dC, dI)) (ci := 4) (v := .int v2_0) (C := RX4) (T := TX4) (N := 10) hx hb hts zn_X11_has_X4 hown hK hP 2 rfl rfl 0 (of_decide_eq_true rfl) (hts (.fieldLink RX11 126 "ShortEnough$Numbers" "count" "I") zw_X11_has_611) (fun _ h9 => h9) rfl dX11_has_55 ?_
    have ho := Option.some.inj hfn
    subst ho
    exact zri hx hb hr hK hP hD hS hQ rfl hlocks dX11_has_58
  have hfn := (if_neg c_1).symm.trans hfn
  have oc_1 := zk_ne rfl (by decide +kernel : (0 : Int32).toInt = 0) c_1
  by_cases c_2 : p1 = 1
  · have hfn := (if_pos c_2).symm.trans hfn
    refine W.eq (g2 := F0 m 1 ls [.int 1]) (by rw [c_2]) ?_
    refine lv_tableIn (tgt := 59) (off := 58) hx hb dX11_has_1 (by decide +kernel) (by decide +kernel) (by decide +kernel) (of_decide_eq_true rfl) ?_
    refine lv_aload_n hx hb dX11_has_59 rfl (lv_at hl 0 rfl) ?_
    refine va_get (D := (dC, dI)) (ci := 11) (v := .ref r0_4) (C := RX11) (T := TX11) (N := 16) hx hb hts zn_X11_has_X11 hown hK hP 0 rfl rfl 4 (of_decide_eq_true rfl) (hts (.fieldLink RX11 27 "ShortEnough" "current" "LShortEnough$Task;") zw_X11_has_607) (fun _ h9 => h9) rfl dX11_has_60 ?_
    refine va_get (D := (dC, dI)) (ci := 9) (v := .int v1_0) (C := RX9) (T := TX9) (N := 9) hx hb hts zn_X11_has_X9 hown hK hP 1 rfl rfl 0 (of_decide_eq_true rfl) (hts (.fieldLink RX11 137 "ShortEnough$Task" "formats" "I") zw_X11_has_612) (fun _ h9 => h9) rfl dX11_has_63 ?_
    have ho := Option.some.inj hfn
    subst ho
    exact zri hx hb hr hK hP hD hS hQ rfl hlocks dX11_has_66
  have hfn := (if_neg c_2).symm.trans hfn
  have oc_2 := zk_ne rfl (by decide +kernel : (1 : Int32).toInt = 1) c_2
  by_cases c_3 : p1 = 2
  · have hfn := (if_pos c_3).symm.trans hfn
    refine W.eq (g2 := F0 m 1 ls [.int 2]) (by rw [c_3]) ?_
    refine lv_tableIn (tgt := 67) (off := 66) hx hb dX11_has_1 (by decide +kernel) (by decide +kernel) (by decide +kernel) (of_decide_eq_true rfl) ?_
    refine lv_aload_n hx hb dX11_has_67 rfl (lv_at hl 0 rfl) ?_
    refine va_get (D := (dC, dI)) (ci := 11) (v := .ref r0_4) (C := RX11) (T := TX11) (N := 16) hx hb hts zn_X11_has_X11 hown hK hP 0 rfl rfl 4 (of_decide_eq_true rfl) (hts (.fieldLink RX11 27 "ShortEnough" "current" "LShortEnough$Task;") zw_X11_has_607) (fun _ h9 => h9) rfl dX11_has_68 ?_
    refine va_get (D := (dC, dI)) (ci := 9) (v := .ref r1_6) (C := RX9) (T := TX9) (N := 9) hx hb hts zn_X11_has_X9 hown hK hP 1 rfl rfl 6 (of_decide_eq_true rfl) (hts (.fieldLink RX11 122 "ShortEnough$Task" "numbers" "LShortEnough$Numbers;") zw_X11_has_609) (fun _ h9 => h9) rfl dX11_has_71 ?_
    refine va_get (D := (dC, dI)) (ci := 4) (v := .int v2_1) (C := RX4) (T := TX4) (N := 10) hx hb hts zn_X11_has_X4 hown hK hP 2 rfl rfl 1 (of_decide_eq_true rfl) (hts (.fieldLink RX11 140 "ShortEnough$Numbers" "inputs" "I") zw_X11_has_613) (fun _ h9 => h9) rfl dX11_has_74 ?_
    have ho := Option.some.inj hfn
    subst ho
    exact zri hx hb hr hK hP hD hS hQ rfl hlocks dX11_has_77
  have hfn := (if_neg c_3).symm.trans hfn
  have oc_3 := zk_ne rfl (by decide +kernel : (2 : Int32).toInt = 2) c_3
  by_cases c_4 : p1 = 3
  · have hfn := (if_pos c_4).symm.trans hfn
    refine W.eq (g2 := F0 m 1 ls [.int 3]) (by rw [c_4]) ?_
    refine lv_tableIn (tgt := 78) (off := 77) hx hb dX11_has_1 (by decide +kernel) (by decide +kernel) (by decide +kernel) (of_decide_eq_true rfl) ?_
    refine lv_aload_n hx hb dX11_has_78 rfl (lv_at hl 0 rfl) ?_
    refine va_get (D := (dC, dI)) (ci := 11) (v := .ref r0_4) (C := RX11) (T := TX11) (N := 16) hx hb hts zn_X11_has_X11 hown hK hP 0 rfl rfl 4 (of_decide_eq_true rfl) (hts (.fieldLink RX11 27 "ShortEnough" "current" "LShortEnough$Task;") zw_X11_has_607) (fun _ h9 => h9) rfl dX11_has_79 ?_
    refine va_get (D := (dC, dI)) (ci := 9) (v := .ref r1_6) (C := RX9) (T := TX9) (N := 9) hx hb hts zn_X11_has_X9 hown hK hP 1 rfl rfl 6 (of_decide_eq_true rfl) (hts (.fieldLink RX11 122 "ShortEnough$Task" "numbers" "LShortEnough$Numbers;") zw_X11_has_609) (fun _ h9 => h9) rfl dX11_has_82 ?_
    refine lv_aload_n hx hb dX11_has_85 rfl (lv_at hl 0 rfl) ?_
    refine va_get (D := (dC, dI)) (ci := 11) (v := .ref r0_4) (C := RX11) (T := TX11) (N := 16) hx hb hts zn_X11_has_X11 hown hK hP 0 rfl rfl 4 (of_decide_eq_true rfl) (hts (.fieldLink RX11 27 "ShortEnough" "current" "LShortEnough$Task;") zw_X11_has_607) (fun _ h9 => h9) rfl dX11_has_86 ?_
    refine va_get (D := (dC, dI)) (ci := 9) (v := .ref r1_6) (C := RX9) (T := TX9) (N := 9) hx hb hts zn_X11_has_X9 hown hK hP 1 rfl rfl 6 (of_decide_eq_true rfl) (hts (.fieldLink RX11 122 "ShortEnough$Task" "numbers" "LShortEnough$Numbers;") zw_X11_has_609) (fun _ h9 => h9) rfl dX11_has_89 ?_
    refine va_get (D := (dC, dI)) (ci := 4) (v := .int v2_0) (C := RX4) (T := TX4) (N := 10) hx hb hts zn_X11_has_X4 hown hK hP 2 rfl rfl 0 (of_decide_eq_true rfl) (hts (.fieldLink RX11 126 "ShortEnough$Numbers" "count" "I") zw_X11_has_611) (fun _ h9 => h9) rfl dX11_has_92 ?_
    obtain ⟨o_5, hqo_5, hfn⟩ := zb_s hfn
    refine zcVi (ci := 4) (rest := []) (pc' := 98) (ws' := [zV11 h0 r0_0 v0_1 r0_2 r0_3 r0_4 r0_5 r0_6 r0_7 r0_8 r0_9 r0_10 r0_11 r0_12 r0_13 r0_14 v0_15, zV9 r0_4 v1_0 r1_1 r1_2 r1_3 r1_4 v1_5 r1_6 r1_7 r1_8, zV4 r1_6 v2_0 v2_1 r2_2 r2_3 r2_4 r2_5 r2_6 r2_7 r2_8 r2_9, zVi r2_5 k3 14 f3, zV2 r1_7 v4_0 v4_1 v4_2 r4_3 r4_4 r4_5]) hP hK hD hS hA ⟨hx, hb, hml, hown, hts⟩ (zf_X4_countAnswers l dC dI r1_6 v2_0 v2_0 v2_1 r2_2 r2_3 r2_4 r2_5 r2_6 r2_7 r2_8 r2_9 k3 f3 o_5 hqo_5 s.heap.size) (cwV 1 hts gX11_has_X4_countAnswers rfl rfl rfl zhd_X4_countAnswers ⟨Nat.le_of_ble_eq_true rfl, Nat.le_of_ble_eq_true rfl⟩) [2, 3] rfl (of_decide_eq_true rfl) [0] rfl rfl rfl rfl hl.1 rfl (Nat.le_of_ble_eq_true rfl) dX11_has_95 ⟨Nat.le_of_ble_eq_true rfl, Nat.le_of_ble_eq_true rfl⟩ [none, none, some 0, some 1] (of_decide_eq_true rfl) (of_decide_eq_true rfl) rfl rfl rfl (fun H locs hP hD hS => ?_)
    have ho := Option.some.inj hfn
    subst ho
    exact zri hx hb hr hK hP hD hS hQ rfl hlocks dX11_has_98
  have hfn := (if_neg c_4).symm.trans hfn
  have oc_4 := zk_ne rfl (by decide +kernel : (3 : Int32).toInt = 3) c_4
  by_cases c_9 : p1 = 4
  · have hfn := (if_pos c_9).symm.trans hfn
    refine W.eq (g2 := F0 m 1 ls [.int 4]) (by rw [c_9]) ?_
    refine lv_tableIn (tgt := 99) (off := 98) hx hb dX11_has_1 (by decide +kernel) (by decide +kernel) (by decide +kernel) (of_decide_eq_true rfl) ?_
    refine lv_aload_n hx hb dX11_has_99 rfl (lv_at hl 0 rfl) ?_
    refine va_get (D := (dC, dI)) (ci := 11) (v := .ref r0_4) (C := RX11) (T := TX11) (N := 16) hx hb hts zn_X11_has_X11 hown hK hP 0 rfl rfl 4 (of_decide_eq_true rfl) (hts (.fieldLink RX11 27 "ShortEnough" "current" "LShortEnough$Task;") zw_X11_has_607) (fun _ h9 => h9) rfl dX11_has_100 ?_
    refine va_get (D := (dC, dI)) (ci := 9) (v := .ref r1_7) (C := RX9) (T := TX9) (N := 9) hx hb hts zn_X11_has_X9 hown hK hP 1 rfl rfl 7 (of_decide_eq_true rfl) (hts (.fieldLink RX11 107 "ShortEnough$Task" "groups" "LShortEnough$Groups;") zw_X11_has_614) (fun _ h9 => h9) rfl dX11_has_103 ?_
    refine va_get (D := (dC, dI)) (ci := 2) (v := .int v4_0) (C := RX2) (T := TX2) (N := 6) hx hb hts zn_X11_has_X2 hown hK hP 4 rfl rfl 0 (of_decide_eq_true rfl) (hts (.fieldLink RX11 146 "ShortEnough$Groups" "count" "I") zw_X11_has_616) (fun _ h9 => h9) rfl dX11_has_106 ?_
    have ho := Option.some.inj hfn
    subst ho
    exact zri hx hb hr hK hP hD hS hQ rfl hlocks dX11_has_109
  have hfn := (if_neg c_9).symm.trans hfn
  have oc_9 := zk_ne rfl (by decide +kernel : (4 : Int32).toInt = 4) c_9
  by_cases c_10 : p1 = 5
  · have hfn := (if_pos c_10).symm.trans hfn
    refine W.eq (g2 := F0 m 1 ls [.int 5]) (by rw [c_10]) ?_
    refine lv_tableIn (tgt := 110) (off := 109) hx hb dX11_has_1 (by decide +kernel) (by decide +kernel) (by decide +kernel) (of_decide_eq_true rfl) ?_
    refine lv_aload_n hx hb dX11_has_110 rfl (lv_at hl 0 rfl) ?_
    refine va_get (D := (dC, dI)) (ci := 11) (v := .ref r0_4) (C := RX11) (T := TX11) (N := 16) hx hb hts zn_X11_has_X11 hown hK hP 0 rfl rfl 4 (of_decide_eq_true rfl) (hts (.fieldLink RX11 27 "ShortEnough" "current" "LShortEnough$Task;") zw_X11_has_607) (fun _ h9 => h9) rfl dX11_has_111 ?_
    refine va_get (D := (dC, dI)) (ci := 9) (v := .ref r1_7) (C := RX9) (T := TX9) (N := 9) hx hb hts zn_X11_has_X9 hown hK hP 1 rfl rfl 7 (of_decide_eq_true rfl) (hts (.fieldLink RX11 107 "ShortEnough$Task" "groups" "LShortEnough$Groups;") zw_X11_has_614) (fun _ h9 => h9) rfl dX11_has_114 ?_
    refine va_get (D := (dC, dI)) (ci := 2) (v := .int v4_1) (C := RX2) (T := TX2) (N := 6) hx hb hts zn_X11_has_X2 hown hK hP 4 rfl rfl 1 (of_decide_eq_true rfl) (hts (.fieldLink RX11 147 "ShortEnough$Groups" "free" "I") zw_X11_has_617) (fun _ h9 => h9) rfl dX11_has_117 ?_
    have ho := Option.some.inj hfn
    subst ho
    exact zri hx hb hr hK hP hD hS hQ rfl hlocks dX11_has_120
  have hfn := (if_neg c_10).symm.trans hfn
  have oc_10 := zk_ne rfl (by decide +kernel : (5 : Int32).toInt = 5) c_10
  by_cases c_11 : p1 = 6
  · have hfn := (if_pos c_11).symm.trans hfn
    refine W.eq (g2 := F0 m 1 ls [.int 6]) (by rw [c_11]) ?_
    refine lv_tableIn (tgt := 121) (off := 120) hx hb dX11_has_1 (by decide +kernel) (by decide +kernel) (by decide +kernel) (of_decide_eq_true rfl) ?_
    refine lv_aload_n hx hb dX11_has_121 rfl (lv_at hl 0 rfl) ?_
    refine va_get (D := (dC, dI)) (ci := 11) (v := .ref r0_4) (C := RX11) (T := TX11) (N := 16) hx hb hts zn_X11_has_X11 hown hK hP 0 rfl rfl 4 (of_decide_eq_true rfl) (hts (.fieldLink RX11 27 "ShortEnough" "current" "LShortEnough$Task;") zw_X11_has_607) (fun _ h9 => h9) rfl dX11_has_122 ?_
    refine va_get (D := (dC, dI)) (ci := 9) (v := .int v1_5) (C := RX9) (T := TX9) (N := 9) hx hb hts zn_X11_has_X9 hown hK hP 1 rfl rfl 5 (of_decide_eq_true rfl) (hts (.fieldLink RX11 150 "ShortEnough$Task" "castPrice" "I") zw_X11_has_618) (fun _ h9 => h9) rfl dX11_has_125 ?_
    have ho := Option.some.inj hfn
    subst ho
    exact zri hx hb hr hK hP hD hS hQ rfl hlocks dX11_has_128
  have hfn := (if_neg c_11).symm.trans hfn
  have oc_11 := zk_ne rfl (by decide +kernel : (6 : Int32).toInt = 6) c_11
  by_cases c_12 : p1 = 7
  · have hfn := (if_pos c_12).symm.trans hfn
    refine W.eq (g2 := F0 m 1 ls [.int 7]) (by rw [c_12]) ?_
    refine lv_tableIn (tgt := 129) (off := 128) hx hb dX11_has_1 (by decide +kernel) (by decide +kernel) (by decide +kernel) (of_decide_eq_true rfl) ?_
    refine lv_aload_n hx hb dX11_has_129 rfl (lv_at hl 0 rfl) ?_
    refine va_get (D := (dC, dI)) (ci := 11) (v := .int v0_15) (C := RX11) (T := TX11) (N := 16) hx hb hts zn_X11_has_X11 hown hK hP 0 rfl rfl 15 (of_decide_eq_true rfl) (hts (.fieldLink RX11 85 "ShortEnough" "seedNow" "I") zw_X11_has_619) (fun _ h9 => h9) rfl dX11_has_130 ?_
    have ho := Option.some.inj hfn
    subst ho
    exact zri hx hb hr hK hP hD hS hQ rfl hlocks dX11_has_133
  have hfn := (if_neg c_12).symm.trans hfn
  have oc_12 := zk_ne rfl (by decide +kernel : (7 : Int32).toInt = 7) c_12
  refine lv_tableOut (tgt := 134) hx hb dX11_has_1 (by omega) (of_decide_eq_true rfl) ?_
  refine lv_iconst (v := (-1)) hx hb dX11_has_134 zci_m1 ?_
  have ho := Option.some.inj hfn
  subst ho
  exact zri hx hb hr hK hP hD hS hQ rfl hlocks dX11_has_135

set_option maxHeartbeats 4000000 in
set_option maxRecDepth 100000 in
theorem zf_X11_letterOf (l : Launch) (dC : Nat → ClassId) (dI : Nat → Nat → Nat) (p0 : Int32) (p1 : Int32) (o : Int32) (hfn : fn_X11_letterOf p0 p1 = some o) (sz : Nat) : zMi l yX11_letterOf wsX11_letterOf ({ frames := 0, cells := 0, slots := 0, locals := 0 }) (dC, dI) vwCl [.int p0, .int p1] [] [] (fun r _ => r = o) [] [] sz := by
  refine zgoi (cc := cX11_letterOf) (maxL := 2) (ret := (some .int)) (C0 := RX11) (lv0 := [(0, .int p0), (1, .int p1)]) zpl_X11 rfl rfl rfl (Nat.le_of_ble_eq_true rfl) ?_
  intro p e s m below meth c A ls Q hx hb hr hts hown hlocks hml hP hK hD hA hS hl hQ
  unfold fn_X11_letterOf at hfn
  refine lv_iload_n hx hb dX11_letterOf_0 rfl (lv_at hl 0 rfl) ?_
  refine lv_iconst (v := 5) hx hb dX11_letterOf_1 zci_5 ?_
  refine lv_iconst (v := 5) hx hb dX11_letterOf_2 zci_5 ?_
  refine lv_iload_n hx hb dX11_letterOf_3 rfl (lv_at hl 1 rfl) ?_
  refine lv_isub hx hb dX11_letterOf_4 ?_
  refine lv_imul hx hb dX11_letterOf_5 ?_
  refine lv_ishr hx hb dX11_letterOf_6 ?_
  refine lv_bipush (v := 31) hx hb dX11_letterOf_7 zcb_31 ?_
  refine lv_iand hx hb dX11_letterOf_9 ?_
  have ho := Option.some.inj hfn
  subst ho
  exact zri hx hb hr hK hP hD hS hQ rfl hlocks dX11_letterOf_10
theorem zn_X11_letter_X11 : ∀ w ∈ wsX110, w ∈ wsX11_letter := fun _ h => List.mem_cons_of_mem _ (List.mem_append_left _ (List.mem_append_left _ (List.mem_append_right _ h)))
theorem zw_X11_letter_621 : Cond.fieldLink RX11 27 "ShortEnough" "current" "LShortEnough$Task;" ∈ wsX11_letter := List.mem_of_getElem? (i := 1) (by decide +kernel)
theorem zn_X11_letter_X9 : ∀ w ∈ wsX90, w ∈ wsX11_letter := fun _ h => List.mem_cons_of_mem _ (List.mem_append_left _ (List.mem_append_right _ h))
theorem zw_X11_letter_623 : Cond.fieldLink RX11 122 "ShortEnough$Task" "numbers" "LShortEnough$Numbers;" ∈ wsX11_letter := List.mem_of_getElem? (i := 3) (by decide +kernel)
theorem zn_X11_letter_X4 : ∀ w ∈ wsX40, w ∈ wsX11_letter := fun _ h => List.mem_cons_of_mem _ (List.mem_append_right _ h)
theorem zw_X11_letter_625 : Cond.fieldLink RX11 163 "ShortEnough$Numbers" "name" "[I" ∈ wsX11_letter := List.mem_of_getElem? (i := 4) (by decide +kernel)
theorem zw_X11_letter_626 : Cond.fieldLink RX11 160 "ShortEnough$Task" "formatName" "[I" ∈ wsX11_letter := List.mem_of_getElem? (i := 2) (by decide +kernel)
set_option maxHeartbeats 4000000 in
set_option maxRecDepth 100000 in
theorem zf_X11_letter (l : Launch) (dC : Nat → ClassId) (dI : Nat → Nat → Nat) (h0 : Nat) (p1 : Int32) (p2 : Int32) (p3 : Int32) (r0_0 : Nat) (v0_1 : Int32) (r0_2 : Nat) (r0_3 : Nat) (r0_4 : Nat) (r0_5 : Nat) (r0_6 : Nat) (r0_7 : Nat) (r0_8 : Nat) (r0_9 : Nat) (r0_10 : Nat) (r0_11 : Nat) (r0_12 : Nat) (r0_13 : Nat) (r0_14 : Nat) (v0_15 : Int32) (v1_0 : Int32) (r1_1 : Nat) (r1_2 : Nat) (r1_3 : Nat) (r1_4 : Nat) (v1_5 : Int32) (r1_6 : Nat) (r1_7 : Nat) (r1_8 : Nat) (v2_0 : Int32) (v2_1 : Int32) (r2_2 : Nat) (r2_3 : Nat) (r2_4 : Nat) (r2_5 : Nat) (r2_6 : Nat) (r2_7 : Nat) (r2_8 : Nat) (r2_9 : Nat) (k3 : Nat) (f3 : Nat → Int32) (k4 : Nat) (f4 : Nat → Int32) (o : Int32) (hfn : fn_X11_letter p1 p2 p3 v1_0 v2_0 f3 f4 = some o) (sz : Nat) : zMi l yX11_letter wsX11_letter ({ frames := 1, cells := 0, slots := 0, locals := 21 }) (dC, dI) vwCl [.ref h0, .int p1, .int p2, .int p3] [zV11 h0 r0_0 v0_1 r0_2 r0_3 r0_4 r0_5 r0_6 r0_7 r0_8 r0_9 r0_10 r0_11 r0_12 r0_13 r0_14 v0_15, zV9 r0_4 v1_0 r1_1 r1_2 r1_3 r1_4 v1_5 r1_6 r1_7 r1_8, zV4 r1_6 v2_0 v2_1 r2_2 r2_3 r2_4 r2_5 r2_6 r2_7 r2_8 r2_9, zVi r2_2 k3 14 f3, zVi r1_1 k4 4 f4] [(k3, .int), (k4, .int)] (fun r _ => r = o) [zV11 h0 r0_0 v0_1 r0_2 r0_3 r0_4 r0_5 r0_6 r0_7 r0_8 r0_9 r0_10 r0_11 r0_12 r0_13 r0_14 v0_15, zV9 r0_4 v1_0 r1_1 r1_2 r1_3 r1_4 v1_5 r1_6 r1_7 r1_8, zV4 r1_6 v2_0 v2_1 r2_2 r2_3 r2_4 r2_5 r2_6 r2_7 r2_8 r2_9, zVi r2_2 k3 14 f3, zVi r1_1 k4 4 f4] [(k3, .int), (k4, .int)] sz := by
  refine zgoi (cc := cX11_letter) (maxL := 6) (ret := (some .int)) (C0 := RX11) (lv0 := [(0, .ref h0), (1, .int p1), (2, .int p2), (3, .int p3)]) zpl_X11 rfl rfl rfl (Nat.le_of_ble_eq_true rfl) ?_
  intro p e s m below meth c A ls Q hx hb hr hts hown hlocks hml hP hK hD hA hS hl hQ
  unfold fn_X11_letter at hfn
  refine lv_iload_n hx hb dX11_letter_0 rfl (lv_at hl 2 rfl) ?_
  obtain ⟨j_1, ej_1, hfn⟩ := zj_g hfn
  have jp_1 : ∀ (s_1 : Int32) (H : Heap) (locs : List Loc) (ls : Array Slot), j_1 s_1 = some o → va_P (dC, dI) vwCl [zV11 h0 r0_0 v0_1 r0_2 r0_3 r0_4 r0_5 r0_6 r0_7 r0_8 r0_9 r0_10 r0_11 r0_12 r0_13 r0_14 v0_15, zV9 r0_4 v1_0 r1_1 r1_2 r1_3 r1_4 v1_5 r1_6 r1_7 r1_8, zV4 r1_6 v2_0 v2_1 r2_2 r2_3 r2_4 r2_5 r2_6 r2_7 r2_8 r2_9, zVi r2_2 k3 14 f3, zVi r1_1 k4 4 f4] H → va_D A [zV11 h0 r0_0 v0_1 r0_2 r0_3 r0_4 r0_5 r0_6 r0_7 r0_8 r0_9 r0_10 r0_11 r0_12 r0_13 r0_14 v0_15, zV9 r0_4 v1_0 r1_1 r1_2 r1_3 r1_4 v1_5 r1_6 r1_7 r1_8, zV4 r1_6 v2_0 v2_1 r2_2 r2_3 r2_4 r2_5 r2_6 r2_7 r2_8 r2_9, zVi r2_2 k3 14 f3, zVi r1_1 k4 4 f4] → va_S A s.heap H locs → lv_has ls 6 [(0, .ref h0), (1, .int p1), (2, .int p2), (3, .int p3)] → W p l e (headSpec wsX11_letter ({ frames := 1, cells := 0, slots := 0, locals := 21 })).room s m ([.ref h0, .int p1, .int p2, .int p3] : List Value).toArray below meth c H locs 0 0 Q (F0 m 23 ls [.int s_1]) := by
    intro s_1 H locs ls hfn hP hD hS hl
    have hfn := zj_s ej_1 hfn
    refine lv_istore (lv' := [(4, .int s_1), (0, .ref h0), (1, .int p1), (2, .int p2), (3, .int p3)]) hx hb dX11_letter_23 hl (of_decide_eq_true rfl) rfl (fun ls hl => ?_)
    refine lv_iload hx hb dX11_letter_25 (lv_at hl 0 rfl) ?_
    refine lv_if_eq (tgt := 40) hx hb dX11_letter_27 (of_decide_eq_true rfl) (fun c_2 => ?_) (fun c_2 => ?_)
    · have hfn := (if_pos c_2).symm.trans hfn
      refine lv_iconst (v := (-1)) hx hb dX11_letter_40 zci_m1 ?_
      have ho := Option.some.inj hfn
      subst ho
      exact zri hx hb hr hK hP hD hS hQ rfl hlocks dX11_letter_41
    have hfn := (if_neg c_2).symm.trans hfn
    refine lv_iload_n hx hb dX11_letter_30 rfl (lv_at hl 4 rfl) ?_
    refine lv_if_lt (tgt := 40) hx hb dX11_letter_31 (of_decide_eq_true rfl) (fun c_3 => ?_) (fun c_3 => ?_)
    · have hfn := (if_pos c_3).symm.trans hfn
      refine lv_iconst (v := (-1)) hx hb dX11_letter_40 zci_m1 ?_
      have ho := Option.some.inj hfn
      subst ho
      exact zri hx hb hr hK hP hD hS hQ rfl hlocks dX11_letter_41
    have hfn := (if_neg c_3).symm.trans hfn
    refine lv_iload_n hx hb dX11_letter_34 rfl (lv_at hl 4 rfl) ?_
    refine lv_bipush (v := 6) hx hb dX11_letter_35 zcb_6 ?_
    refine lv_icmp_lt (tgt := 42) hx hb dX11_letter_37 (of_decide_eq_true rfl) (fun c_4 => ?_) (fun c_4 => ?_)
    · have hfn := (if_pos c_4).symm.trans hfn
      refine lv_iload_n hx hb dX11_letter_42 rfl (lv_at hl 3 rfl) ?_
      refine lv_if_eq (tgt := 58) hx hb dX11_letter_43 (of_decide_eq_true rfl) (fun c_5 => ?_) (fun c_5 => ?_)
      · have hfn := (if_pos c_5).symm.trans hfn
        refine lv_aload_n hx hb dX11_letter_58 rfl (lv_at hl 1 rfl) ?_
        refine va_get (D := (dC, dI)) (ci := 11) (v := .ref r0_4) (C := RX11) (T := TX11) (N := 16) hx hb hts zn_X11_letter_X11 hown hK hP 0 rfl rfl 4 (of_decide_eq_true rfl) (hts (.fieldLink RX11 27 "ShortEnough" "current" "LShortEnough$Task;") zw_X11_letter_621) (fun _ h9 => h9) rfl dX11_letter_59 ?_
        refine va_get (D := (dC, dI)) (ci := 9) (v := .ref r1_6) (C := RX9) (T := TX9) (N := 9) hx hb hts zn_X11_letter_X9 hown hK hP 1 rfl rfl 6 (of_decide_eq_true rfl) (hts (.fieldLink RX11 122 "ShortEnough$Task" "numbers" "LShortEnough$Numbers;") zw_X11_letter_623) (fun _ h9 => h9) rfl dX11_letter_62 ?_
        refine va_get (D := (dC, dI)) (ci := 4) (v := .ref r2_2) (C := RX4) (T := TX4) (N := 10) hx hb hts zn_X11_letter_X4 hown hK hP 2 rfl rfl 2 (of_decide_eq_true rfl) (hts (.fieldLink RX11 163 "ShortEnough$Numbers" "name" "[I") zw_X11_letter_625) (fun _ h9 => h9) rfl dX11_letter_65 ?_
        refine lv_iload_n hx hb dX11_letter_68 rfl (lv_at hl 2 rfl) ?_
        obtain ⟨h_6, hfn⟩ := zg_s hfn
        refine va_iald hx hb hK hP 3 0 rfl rfl h_6 dX11_letter_69 ?_
        refine lv_istore (lv' := [(5, .int (f3 p1.toNatClampNeg)), (4, .int s_1), (0, .ref h0), (1, .int p1), (2, .int p2), (3, .int p3)]) hx hb dX11_letter_70 hl (of_decide_eq_true rfl) rfl (fun ls hl => ?_)
        refine lv_iload hx hb dX11_letter_72 (lv_at hl 0 rfl) ?_
        refine lv_iload_n hx hb dX11_letter_74 rfl (lv_at hl 5 rfl) ?_
        obtain ⟨o_7, hqo_7, hfn⟩ := zb_s hfn
        refine zcSi (rest := []) (pc' := 78) (ws' := [zV11 h0 r0_0 v0_1 r0_2 r0_3 r0_4 r0_5 r0_6 r0_7 r0_8 r0_9 r0_10 r0_11 r0_12 r0_13 r0_14 v0_15, zV9 r0_4 v1_0 r1_1 r1_2 r1_3 r1_4 v1_5 r1_6 r1_7 r1_8, zV4 r1_6 v2_0 v2_1 r2_2 r2_3 r2_4 r2_5 r2_6 r2_7 r2_8 r2_9, zVi r2_2 k3 14 f3, zVi r1_1 k4 4 f4]) hP hK hD hS hA ⟨hx, hb, hml, hown, hts⟩ (zf_X11_letterOf l dC dI (f3 p1.toNatClampNeg) p3 o_7 hqo_7 H.size) (va_cwS 2 hts gX11_letter_X11_letterOf rfl rfl rfl zhd_X11_letterOf.2 ⟨Nat.le_of_ble_eq_true rfl, Nat.le_of_ble_eq_true rfl⟩) [] rfl (of_decide_eq_true rfl) [] rfl rfl hl.1 rfl (Nat.le_of_ble_eq_true rfl) dX11_letter_75 ⟨Nat.le_of_ble_eq_true rfl, Nat.le_of_ble_eq_true rfl⟩ [] (of_decide_eq_true rfl) (of_decide_eq_true rfl) rfl rfl rfl (fun H locs hP hD hS => ?_)
        have ho := Option.some.inj hfn
        subst ho
        exact zri hx hb hr hK hP hD hS hQ rfl hlocks dX11_letter_78
      have hfn := (if_neg c_5).symm.trans hfn
      refine lv_aload_n hx hb dX11_letter_46 rfl (lv_at hl 1 rfl) ?_
      refine va_get (D := (dC, dI)) (ci := 11) (v := .ref r0_4) (C := RX11) (T := TX11) (N := 16) hx hb hts zn_X11_letter_X11 hown hK hP 0 rfl rfl 4 (of_decide_eq_true rfl) (hts (.fieldLink RX11 27 "ShortEnough" "current" "LShortEnough$Task;") zw_X11_letter_621) (fun _ h9 => h9) rfl dX11_letter_47 ?_
      refine va_get (D := (dC, dI)) (ci := 9) (v := .ref r1_1) (C := RX9) (T := TX9) (N := 9) hx hb hts zn_X11_letter_X9 hown hK hP 1 rfl rfl 1 (of_decide_eq_true rfl) (hts (.fieldLink RX11 160 "ShortEnough$Task" "formatName" "[I") zw_X11_letter_626) (fun _ h9 => h9) rfl dX11_letter_50 ?_
      refine lv_iload_n hx hb dX11_letter_53 rfl (lv_at hl 2 rfl) ?_
      obtain ⟨h_11, hfn⟩ := zg_s hfn
      refine va_iald hx hb hK hP 4 1 rfl rfl h_11 dX11_letter_54 ?_
      refine lv_goto (tgt := 70) hx hb dX11_letter_55 (of_decide_eq_true rfl) ?_
      refine lv_istore (lv' := [(5, .int (f4 p1.toNatClampNeg)), (4, .int s_1), (0, .ref h0), (1, .int p1), (2, .int p2), (3, .int p3)]) hx hb dX11_letter_70 hl (of_decide_eq_true rfl) rfl (fun ls hl => ?_)
      refine lv_iload hx hb dX11_letter_72 (lv_at hl 0 rfl) ?_
      refine lv_iload_n hx hb dX11_letter_74 rfl (lv_at hl 5 rfl) ?_
      obtain ⟨o_12, hqo_12, hfn⟩ := zb_s hfn
      refine zcSi (rest := []) (pc' := 78) (ws' := [zV11 h0 r0_0 v0_1 r0_2 r0_3 r0_4 r0_5 r0_6 r0_7 r0_8 r0_9 r0_10 r0_11 r0_12 r0_13 r0_14 v0_15, zV9 r0_4 v1_0 r1_1 r1_2 r1_3 r1_4 v1_5 r1_6 r1_7 r1_8, zV4 r1_6 v2_0 v2_1 r2_2 r2_3 r2_4 r2_5 r2_6 r2_7 r2_8 r2_9, zVi r2_2 k3 14 f3, zVi r1_1 k4 4 f4]) hP hK hD hS hA ⟨hx, hb, hml, hown, hts⟩ (zf_X11_letterOf l dC dI (f4 p1.toNatClampNeg) p3 o_12 hqo_12 H.size) (va_cwS 2 hts gX11_letter_X11_letterOf rfl rfl rfl zhd_X11_letterOf.2 ⟨Nat.le_of_ble_eq_true rfl, Nat.le_of_ble_eq_true rfl⟩) [] rfl (of_decide_eq_true rfl) [] rfl rfl hl.1 rfl (Nat.le_of_ble_eq_true rfl) dX11_letter_75 ⟨Nat.le_of_ble_eq_true rfl, Nat.le_of_ble_eq_true rfl⟩ [] (of_decide_eq_true rfl) (of_decide_eq_true rfl) rfl rfl rfl (fun H locs hP hD hS => ?_)
      have ho := Option.some.inj hfn
      subst ho
      exact zri hx hb hr hK hP hD hS hQ rfl hlocks dX11_letter_78
    have hfn := (if_neg c_4).symm.trans hfn
    refine lv_iconst (v := (-1)) hx hb dX11_letter_40 zci_m1 ?_
    have ho := Option.some.inj hfn
    subst ho
    exact zri hx hb hr hK hP hD hS hQ rfl hlocks dX11_letter_41
  refine lv_if_eq (tgt := 15) hx hb dX11_letter_1 (of_decide_eq_true rfl) (fun c_16 => ?_) (fun c_16 => ?_)
  · have hfn := (if_pos c_16).symm.trans hfn
    refine lv_aload_n hx hb dX11_letter_15 rfl (lv_at hl 0 rfl) ?_
    refine va_get (D := (dC, dI)) (ci := 11) (v := .ref r0_4) (C := RX11) (T := TX11) (N := 16) hx hb hts zn_X11_letter_X11 hown hK hP 0 rfl rfl 4 (of_decide_eq_true rfl) (hts (.fieldLink RX11 27 "ShortEnough" "current" "LShortEnough$Task;") zw_X11_letter_621) (fun _ h9 => h9) rfl dX11_letter_16 ?_
    refine lv_iload_n hx hb dX11_letter_19 rfl (lv_at hl 1 rfl) ?_
    obtain ⟨o_17, hqo_17, hfn⟩ := zb_s hfn
    refine zcVb (ci := 9) (rest := []) (pc' := 23) (ws' := [zV11 h0 r0_0 v0_1 r0_2 r0_3 r0_4 r0_5 r0_6 r0_7 r0_8 r0_9 r0_10 r0_11 r0_12 r0_13 r0_14 v0_15, zV9 r0_4 v1_0 r1_1 r1_2 r1_3 r1_4 v1_5 r1_6 r1_7 r1_8, zV4 r1_6 v2_0 v2_1 r2_2 r2_3 r2_4 r2_5 r2_6 r2_7 r2_8 r2_9, zVi r2_2 k3 14 f3, zVi r1_1 k4 4 f4]) hP hK hD hS hA ⟨hx, hb, hml, hown, hts⟩ (zf_X9_hasNumber l dC dI r0_4 p1 v1_0 r1_1 r1_2 r1_3 r1_4 v1_5 r1_6 r1_7 r1_8 v2_0 v2_1 r2_2 r2_3 r2_4 r2_5 r2_6 r2_7 r2_8 r2_9 o_17 hqo_17 s.heap.size) (cwV 1 hts gX11_letter_X9_hasNumber rfl rfl rfl zhd_X9_hasNumber ⟨Nat.le_of_ble_eq_true rfl, Nat.le_of_ble_eq_true rfl⟩) [1, 2] rfl (of_decide_eq_true rfl) [] rfl rfl rfl rfl hl.1 rfl (Nat.le_of_ble_eq_true rfl) dX11_letter_20 ⟨Nat.le_of_ble_eq_true rfl, Nat.le_of_ble_eq_true rfl⟩ [none, some 0, some 1] (of_decide_eq_true rfl) (of_decide_eq_true rfl) rfl rfl rfl (fun H locs hw_20n hP hD hS => ?_)
    exact jp_1 o_17 H locs ls hfn hP hD hS (lv_sub hl [0, 1, 2, 3] rfl)
  have hfn := (if_neg c_16).symm.trans hfn
  refine lv_aload_n hx hb dX11_letter_4 rfl (lv_at hl 0 rfl) ?_
  refine va_get (D := (dC, dI)) (ci := 11) (v := .ref r0_4) (C := RX11) (T := TX11) (N := 16) hx hb hts zn_X11_letter_X11 hown hK hP 0 rfl rfl 4 (of_decide_eq_true rfl) (hts (.fieldLink RX11 27 "ShortEnough" "current" "LShortEnough$Task;") zw_X11_letter_621) (fun _ h9 => h9) rfl dX11_letter_5 ?_
  refine lv_iload_n hx hb dX11_letter_8 rfl (lv_at hl 1 rfl) ?_
  obtain ⟨o_21, hqo_21, hfn⟩ := zb_s hfn
  refine zcVb (ci := 9) (rest := []) (pc' := 12) (ws' := [zV11 h0 r0_0 v0_1 r0_2 r0_3 r0_4 r0_5 r0_6 r0_7 r0_8 r0_9 r0_10 r0_11 r0_12 r0_13 r0_14 v0_15, zV9 r0_4 v1_0 r1_1 r1_2 r1_3 r1_4 v1_5 r1_6 r1_7 r1_8, zV4 r1_6 v2_0 v2_1 r2_2 r2_3 r2_4 r2_5 r2_6 r2_7 r2_8 r2_9, zVi r2_2 k3 14 f3, zVi r1_1 k4 4 f4]) hP hK hD hS hA ⟨hx, hb, hml, hown, hts⟩ (zf_X9_hasFormat l dC dI r0_4 p1 v1_0 r1_1 r1_2 r1_3 r1_4 v1_5 r1_6 r1_7 r1_8 o_21 hqo_21 s.heap.size) (cwV 1 hts gX11_letter_X9_hasFormat rfl rfl rfl zhd_X9_hasFormat ⟨Nat.le_of_ble_eq_true rfl, Nat.le_of_ble_eq_true rfl⟩) [1] rfl (of_decide_eq_true rfl) [] rfl rfl rfl rfl hl.1 rfl (Nat.le_of_ble_eq_true rfl) dX11_letter_9 ⟨Nat.le_of_ble_eq_true rfl, Nat.le_of_ble_eq_true rfl⟩ [none, some 0] (of_decide_eq_true rfl) (of_decide_eq_true rfl) rfl rfl rfl (fun H locs hw_24n hP hD hS => ?_)
  refine lv_goto (tgt := 23) hx hb dX11_letter_12 (of_decide_eq_true rfl) ?_
  exact jp_1 o_21 H locs ls hfn hP hD hS (lv_sub hl [0, 1, 2, 3] rfl)
theorem zn_X11_format_X11 : ∀ w ∈ wsX110, w ∈ wsX11_format := fun _ h => List.mem_cons_of_mem _ (List.mem_append_left _ (List.mem_append_right _ h))
theorem zw_X11_format_628 : Cond.fieldLink RX11 27 "ShortEnough" "current" "LShortEnough$Task;" ∈ wsX11_format := List.mem_of_getElem? (i := 1) (by decide +kernel)
theorem zn_X11_format_X9 : ∀ w ∈ wsX90, w ∈ wsX11_format := fun _ h => List.mem_cons_of_mem _ (List.mem_append_right _ h)
theorem zw_X11_format_630 : Cond.fieldLink RX11 170 "ShortEnough$Task" "step" "[I" ∈ wsX11_format := List.mem_of_getElem? (i := 2) (by decide +kernel)
theorem zw_X11_format_631 : Cond.fieldLink RX11 173 "ShortEnough$Task" "most" "[I" ∈ wsX11_format := List.mem_of_getElem? (i := 3) (by decide +kernel)
theorem zw_X11_format_632 : Cond.fieldLink RX11 176 "ShortEnough$Task" "price" "[I" ∈ wsX11_format := List.mem_of_getElem? (i := 4) (by decide +kernel)
set_option maxHeartbeats 4000000 in
set_option maxRecDepth 100000 in
theorem zf_X11_format (l : Launch) (dC : Nat → ClassId) (dI : Nat → Nat → Nat) (h0 : Nat) (p1 : Int32) (p2 : Int32) (r0_0 : Nat) (v0_1 : Int32) (r0_2 : Nat) (r0_3 : Nat) (r0_4 : Nat) (r0_5 : Nat) (r0_6 : Nat) (r0_7 : Nat) (r0_8 : Nat) (r0_9 : Nat) (r0_10 : Nat) (r0_11 : Nat) (r0_12 : Nat) (r0_13 : Nat) (r0_14 : Nat) (v0_15 : Int32) (v1_0 : Int32) (r1_1 : Nat) (r1_2 : Nat) (r1_3 : Nat) (r1_4 : Nat) (v1_5 : Int32) (r1_6 : Nat) (r1_7 : Nat) (r1_8 : Nat) (k2 : Nat) (f2 : Nat → Int32) (k3 : Nat) (f3 : Nat → Int32) (k4 : Nat) (f4 : Nat → Int32) (o : Int32) (hfn : fn_X11_format p1 p2 v1_0 f2 f3 f4 = some o) (sz : Nat) : zMi l yX11_format wsX11_format ({ frames := 1, cells := 0, slots := 0, locals := 21 }) (dC, dI) vwCl [.ref h0, .int p1, .int p2] [zV11 h0 r0_0 v0_1 r0_2 r0_3 r0_4 r0_5 r0_6 r0_7 r0_8 r0_9 r0_10 r0_11 r0_12 r0_13 r0_14 v0_15, zV9 r0_4 v1_0 r1_1 r1_2 r1_3 r1_4 v1_5 r1_6 r1_7 r1_8, zVi r1_2 k2 4 f2, zVi r1_3 k3 4 f3, zVi r1_4 k4 4 f4] [(k2, .int), (k3, .int), (k4, .int)] (fun r _ => r = o) [zV11 h0 r0_0 v0_1 r0_2 r0_3 r0_4 r0_5 r0_6 r0_7 r0_8 r0_9 r0_10 r0_11 r0_12 r0_13 r0_14 v0_15, zV9 r0_4 v1_0 r1_1 r1_2 r1_3 r1_4 v1_5 r1_6 r1_7 r1_8, zVi r1_2 k2 4 f2, zVi r1_3 k3 4 f3, zVi r1_4 k4 4 f4] [(k2, .int), (k3, .int), (k4, .int)] sz := by
  refine zgoi (cc := cX11_format) (maxL := 3) (ret := (some .int)) (C0 := RX11) (lv0 := [(0, .ref h0), (1, .int p1), (2, .int p2)]) zpl_X11 rfl rfl rfl (Nat.le_of_ble_eq_true rfl) ?_
  intro p e s m below meth c A ls Q hx hb hr hts hown hlocks hml hP hK hD hA hS hl hQ
  unfold fn_X11_format at hfn
  refine lv_aload_n hx hb dX11_format_0 rfl (lv_at hl 0 rfl) ?_
  refine va_get (D := (dC, dI)) (ci := 11) (v := .ref r0_4) (C := RX11) (T := TX11) (N := 16) hx hb hts zn_X11_format_X11 hown hK hP 0 rfl rfl 4 (of_decide_eq_true rfl) (hts (.fieldLink RX11 27 "ShortEnough" "current" "LShortEnough$Task;") zw_X11_format_628) (fun _ h9 => h9) rfl dX11_format_1 ?_
  refine lv_iload_n hx hb dX11_format_4 rfl (lv_at hl 1 rfl) ?_
  obtain ⟨o_1, hqo_1, hfn⟩ := zb_s hfn
  refine zcVb (ci := 9) (rest := []) (pc' := 8) (ws' := [zV11 h0 r0_0 v0_1 r0_2 r0_3 r0_4 r0_5 r0_6 r0_7 r0_8 r0_9 r0_10 r0_11 r0_12 r0_13 r0_14 v0_15, zV9 r0_4 v1_0 r1_1 r1_2 r1_3 r1_4 v1_5 r1_6 r1_7 r1_8, zVi r1_2 k2 4 f2, zVi r1_3 k3 4 f3, zVi r1_4 k4 4 f4]) hP hK hD hS hA ⟨hx, hb, hml, hown, hts⟩ (zf_X9_hasFormat l dC dI r0_4 p1 v1_0 r1_1 r1_2 r1_3 r1_4 v1_5 r1_6 r1_7 r1_8 o_1 hqo_1 s.heap.size) (cwV 1 hts gX11_format_X9_hasFormat rfl rfl rfl zhd_X9_hasFormat ⟨Nat.le_of_ble_eq_true rfl, Nat.le_of_ble_eq_true rfl⟩) [1] rfl (of_decide_eq_true rfl) [] rfl rfl rfl rfl hl.1 rfl (Nat.le_of_ble_eq_true rfl) dX11_format_5 ⟨Nat.le_of_ble_eq_true rfl, Nat.le_of_ble_eq_true rfl⟩ [none, some 0] (of_decide_eq_true rfl) (of_decide_eq_true rfl) rfl rfl rfl (fun H locs hw_4n hP hD hS => ?_)
  refine lv_if_ne (tgt := 13) hx hb dX11_format_8 (of_decide_eq_true rfl) (fun c_5 => ?_) (fun c_5 => ?_)
  · have hfn := (if_neg c_5).symm.trans hfn
    refine lv_iload_n hx hb dX11_format_13 rfl (lv_at hl 2 rfl) ?_
    by_cases c_6 : p2 = 0
    · have hfn := (if_pos c_6).symm.trans hfn
      refine W.eq (g2 := F0 m 14 ls [.int 0]) (by rw [c_6]) ?_
      refine lv_tableIn (tgt := 40) (off := 26) hx hb dX11_format_14 (by decide +kernel) (by decide +kernel) (by decide +kernel) (of_decide_eq_true rfl) ?_
      refine lv_aload_n hx hb dX11_format_40 rfl (lv_at hl 0 rfl) ?_
      refine va_get (D := (dC, dI)) (ci := 11) (v := .ref r0_4) (C := RX11) (T := TX11) (N := 16) hx hb hts zn_X11_format_X11 hown hK hP 0 rfl rfl 4 (of_decide_eq_true rfl) (hts (.fieldLink RX11 27 "ShortEnough" "current" "LShortEnough$Task;") zw_X11_format_628) (fun _ h9 => h9) rfl dX11_format_41 ?_
      refine va_get (D := (dC, dI)) (ci := 9) (v := .ref r1_2) (C := RX9) (T := TX9) (N := 9) hx hb hts zn_X11_format_X9 hown hK hP 1 rfl rfl 2 (of_decide_eq_true rfl) (hts (.fieldLink RX11 170 "ShortEnough$Task" "step" "[I") zw_X11_format_630) (fun _ h9 => h9) rfl dX11_format_44 ?_
      refine lv_iload_n hx hb dX11_format_47 rfl (lv_at hl 1 rfl) ?_
      obtain ⟨h_7, hfn⟩ := zg_s hfn
      refine va_iald hx hb hK hP 2 0 rfl rfl h_7 dX11_format_48 ?_
      have ho := Option.some.inj hfn
      subst ho
      exact zri hx hb hr hK hP hD hS hQ rfl hlocks dX11_format_49
    have hfn := (if_neg c_6).symm.trans hfn
    have oc_6 := zk_ne rfl (by decide +kernel : (0 : Int32).toInt = 0) c_6
    by_cases c_8 : p2 = 1
    · have hfn := (if_pos c_8).symm.trans hfn
      refine W.eq (g2 := F0 m 14 ls [.int 1]) (by rw [c_8]) ?_
      refine lv_tableIn (tgt := 50) (off := 36) hx hb dX11_format_14 (by decide +kernel) (by decide +kernel) (by decide +kernel) (of_decide_eq_true rfl) ?_
      refine lv_aload_n hx hb dX11_format_50 rfl (lv_at hl 0 rfl) ?_
      refine va_get (D := (dC, dI)) (ci := 11) (v := .ref r0_4) (C := RX11) (T := TX11) (N := 16) hx hb hts zn_X11_format_X11 hown hK hP 0 rfl rfl 4 (of_decide_eq_true rfl) (hts (.fieldLink RX11 27 "ShortEnough" "current" "LShortEnough$Task;") zw_X11_format_628) (fun _ h9 => h9) rfl dX11_format_51 ?_
      refine va_get (D := (dC, dI)) (ci := 9) (v := .ref r1_3) (C := RX9) (T := TX9) (N := 9) hx hb hts zn_X11_format_X9 hown hK hP 1 rfl rfl 3 (of_decide_eq_true rfl) (hts (.fieldLink RX11 173 "ShortEnough$Task" "most" "[I") zw_X11_format_631) (fun _ h9 => h9) rfl dX11_format_54 ?_
      refine lv_iload_n hx hb dX11_format_57 rfl (lv_at hl 1 rfl) ?_
      obtain ⟨h_9, hfn⟩ := zg_s hfn
      refine va_iald hx hb hK hP 3 1 rfl rfl h_9 dX11_format_58 ?_
      have ho := Option.some.inj hfn
      subst ho
      exact zri hx hb hr hK hP hD hS hQ rfl hlocks dX11_format_59
    have hfn := (if_neg c_8).symm.trans hfn
    have oc_8 := zk_ne rfl (by decide +kernel : (1 : Int32).toInt = 1) c_8
    by_cases c_10 : p2 = 2
    · have hfn := (if_pos c_10).symm.trans hfn
      refine W.eq (g2 := F0 m 14 ls [.int 2]) (by rw [c_10]) ?_
      refine lv_tableIn (tgt := 60) (off := 46) hx hb dX11_format_14 (by decide +kernel) (by decide +kernel) (by decide +kernel) (of_decide_eq_true rfl) ?_
      refine lv_aload_n hx hb dX11_format_60 rfl (lv_at hl 0 rfl) ?_
      refine va_get (D := (dC, dI)) (ci := 11) (v := .ref r0_4) (C := RX11) (T := TX11) (N := 16) hx hb hts zn_X11_format_X11 hown hK hP 0 rfl rfl 4 (of_decide_eq_true rfl) (hts (.fieldLink RX11 27 "ShortEnough" "current" "LShortEnough$Task;") zw_X11_format_628) (fun _ h9 => h9) rfl dX11_format_61 ?_
      refine va_get (D := (dC, dI)) (ci := 9) (v := .ref r1_4) (C := RX9) (T := TX9) (N := 9) hx hb hts zn_X11_format_X9 hown hK hP 1 rfl rfl 4 (of_decide_eq_true rfl) (hts (.fieldLink RX11 176 "ShortEnough$Task" "price" "[I") zw_X11_format_632) (fun _ h9 => h9) rfl dX11_format_64 ?_
      refine lv_iload_n hx hb dX11_format_67 rfl (lv_at hl 1 rfl) ?_
      obtain ⟨h_11, hfn⟩ := zg_s hfn
      refine va_iald hx hb hK hP 4 2 rfl rfl h_11 dX11_format_68 ?_
      have ho := Option.some.inj hfn
      subst ho
      exact zri hx hb hr hK hP hD hS hQ rfl hlocks dX11_format_69
    have hfn := (if_neg c_10).symm.trans hfn
    have oc_10 := zk_ne rfl (by decide +kernel : (2 : Int32).toInt = 2) c_10
    refine lv_tableOut (tgt := 70) hx hb dX11_format_14 (by omega) (of_decide_eq_true rfl) ?_
    refine lv_iconst (v := (-1)) hx hb dX11_format_70 zci_m1 ?_
    have ho := Option.some.inj hfn
    subst ho
    exact zri hx hb hr hK hP hD hS hQ rfl hlocks dX11_format_71
  have hfn := (if_pos c_5).symm.trans hfn
  refine lv_iconst (v := (-1)) hx hb dX11_format_11 zci_m1 ?_
  have ho := Option.some.inj hfn
  subst ho
  exact zri hx hb hr hK hP hD hS hQ rfl hlocks dX11_format_12
theorem zn_X11_number_X11 : ∀ w ∈ wsX110, w ∈ wsX11_number := fun _ h => List.mem_cons_of_mem _ (List.mem_append_left _ (List.mem_append_left _ (List.mem_append_left _ (List.mem_append_right _ h))))
theorem zw_X11_number_634 : Cond.fieldLink RX11 27 "ShortEnough" "current" "LShortEnough$Task;" ∈ wsX11_number := List.mem_of_getElem? (i := 1) (by decide +kernel)
theorem zn_X11_number_X9 : ∀ w ∈ wsX90, w ∈ wsX11_number := fun _ h => List.mem_cons_of_mem _ (List.mem_append_left _ (List.mem_append_left _ (List.mem_append_right _ h)))
theorem zw_X11_number_636 : Cond.fieldLink RX11 122 "ShortEnough$Task" "numbers" "LShortEnough$Numbers;" ∈ wsX11_number := List.mem_of_getElem? (i := 2) (by decide +kernel)
theorem zn_X11_number_X4 : ∀ w ∈ wsX40, w ∈ wsX11_number := fun _ h => List.mem_cons_of_mem _ (List.mem_append_left _ (List.mem_append_right _ h))
theorem zw_X11_number_638 : Cond.fieldLink RX11 179 "ShortEnough$Numbers" "op" "[I" ∈ wsX11_number := List.mem_of_getElem? (i := 3) (by decide +kernel)
theorem zw_X11_number_639 : Cond.fieldLink RX11 107 "ShortEnough$Task" "groups" "LShortEnough$Groups;" ∈ wsX11_number := List.mem_of_getElem? (i := 4) (by decide +kernel)
theorem zn_X11_number_X2 : ∀ w ∈ wsX20, w ∈ wsX11_number := fun _ h => List.mem_cons_of_mem _ (List.mem_append_right _ h)
theorem zw_X11_number_641 : Cond.fieldLink RX11 185 "ShortEnough$Groups" "of" "[I" ∈ wsX11_number := List.mem_of_getElem? (i := 5) (by decide +kernel)
theorem zw_X11_number_642 : Cond.fieldLink RX11 188 "ShortEnough$Numbers" "fixedAs" "[I" ∈ wsX11_number := List.mem_of_getElem? (i := 6) (by decide +kernel)
theorem zw_X11_number_643 : Cond.fieldLink RX11 191 "ShortEnough$Numbers" "allowed" "[I" ∈ wsX11_number := List.mem_of_getElem? (i := 7) (by decide +kernel)
set_option maxHeartbeats 4000000 in
set_option maxRecDepth 100000 in
theorem zf_X11_number (l : Launch) (dC : Nat → ClassId) (dI : Nat → Nat → Nat) (h0 : Nat) (p1 : Int32) (p2 : Int32) (r0_0 : Nat) (v0_1 : Int32) (r0_2 : Nat) (r0_3 : Nat) (r0_4 : Nat) (r0_5 : Nat) (r0_6 : Nat) (r0_7 : Nat) (r0_8 : Nat) (r0_9 : Nat) (r0_10 : Nat) (r0_11 : Nat) (r0_12 : Nat) (r0_13 : Nat) (r0_14 : Nat) (v0_15 : Int32) (v1_0 : Int32) (r1_1 : Nat) (r1_2 : Nat) (r1_3 : Nat) (r1_4 : Nat) (v1_5 : Int32) (r1_6 : Nat) (r1_7 : Nat) (r1_8 : Nat) (v2_0 : Int32) (v2_1 : Int32) (r2_2 : Nat) (r2_3 : Nat) (r2_4 : Nat) (r2_5 : Nat) (r2_6 : Nat) (r2_7 : Nat) (r2_8 : Nat) (r2_9 : Nat) (k3 : Nat) (f3 : Nat → Int32) (k4 : Nat) (f4 : Nat → Int32) (v5_0 : Int32) (v5_1 : Int32) (v5_2 : Int32) (r5_3 : Nat) (r5_4 : Nat) (r5_5 : Nat) (k6 : Nat) (f6 : Nat → Int32) (k7 : Nat) (f7 : Nat → Int32) (k8 : Nat) (f8 : Nat → Int32) (o : Int32) (hfn : fn_X11_number p1 p2 v2_0 f3 f4 f6 f7 f8 = some o) (sz : Nat) : zMi l yX11_number wsX11_number ({ frames := 1, cells := 0, slots := 0, locals := 22 }) (dC, dI) vwCl [.ref h0, .int p1, .int p2] [zV11 h0 r0_0 v0_1 r0_2 r0_3 r0_4 r0_5 r0_6 r0_7 r0_8 r0_9 r0_10 r0_11 r0_12 r0_13 r0_14 v0_15, zV9 r0_4 v1_0 r1_1 r1_2 r1_3 r1_4 v1_5 r1_6 r1_7 r1_8, zV4 r1_6 v2_0 v2_1 r2_2 r2_3 r2_4 r2_5 r2_6 r2_7 r2_8 r2_9, zVi r2_3 k3 14 f3, zVi r2_8 k4 28 f4, zV2 r1_7 v5_0 v5_1 v5_2 r5_3 r5_4 r5_5, zVi r5_3 k6 14 f6, zVi r2_4 k7 14 f7, zVi r2_5 k8 14 f8] [(k3, .int), (k4, .int), (k6, .int), (k7, .int), (k8, .int)] (fun r _ => r = o) [zV11 h0 r0_0 v0_1 r0_2 r0_3 r0_4 r0_5 r0_6 r0_7 r0_8 r0_9 r0_10 r0_11 r0_12 r0_13 r0_14 v0_15, zV9 r0_4 v1_0 r1_1 r1_2 r1_3 r1_4 v1_5 r1_6 r1_7 r1_8, zV4 r1_6 v2_0 v2_1 r2_2 r2_3 r2_4 r2_5 r2_6 r2_7 r2_8 r2_9, zVi r2_3 k3 14 f3, zVi r2_8 k4 28 f4, zV2 r1_7 v5_0 v5_1 v5_2 r5_3 r5_4 r5_5, zVi r5_3 k6 14 f6, zVi r2_4 k7 14 f7, zVi r2_5 k8 14 f8] [(k3, .int), (k4, .int), (k6, .int), (k7, .int), (k8, .int)] sz := by
  refine zgoi (cc := cX11_number) (maxL := 3) (ret := (some .int)) (C0 := RX11) (lv0 := [(0, .ref h0), (1, .int p1), (2, .int p2)]) zpl_X11 rfl rfl rfl (Nat.le_of_ble_eq_true rfl) ?_
  intro p e s m below meth c A ls Q hx hb hr hts hown hlocks hml hP hK hD hA hS hl hQ
  unfold fn_X11_number at hfn
  refine lv_aload_n hx hb dX11_number_0 rfl (lv_at hl 0 rfl) ?_
  refine va_get (D := (dC, dI)) (ci := 11) (v := .ref r0_4) (C := RX11) (T := TX11) (N := 16) hx hb hts zn_X11_number_X11 hown hK hP 0 rfl rfl 4 (of_decide_eq_true rfl) (hts (.fieldLink RX11 27 "ShortEnough" "current" "LShortEnough$Task;") zw_X11_number_634) (fun _ h9 => h9) rfl dX11_number_1 ?_
  refine lv_iload_n hx hb dX11_number_4 rfl (lv_at hl 1 rfl) ?_
  obtain ⟨o_1, hqo_1, hfn⟩ := zb_s hfn
  refine zcVb (ci := 9) (rest := []) (pc' := 8) (ws' := [zV11 h0 r0_0 v0_1 r0_2 r0_3 r0_4 r0_5 r0_6 r0_7 r0_8 r0_9 r0_10 r0_11 r0_12 r0_13 r0_14 v0_15, zV9 r0_4 v1_0 r1_1 r1_2 r1_3 r1_4 v1_5 r1_6 r1_7 r1_8, zV4 r1_6 v2_0 v2_1 r2_2 r2_3 r2_4 r2_5 r2_6 r2_7 r2_8 r2_9, zVi r2_3 k3 14 f3, zVi r2_8 k4 28 f4, zV2 r1_7 v5_0 v5_1 v5_2 r5_3 r5_4 r5_5, zVi r5_3 k6 14 f6, zVi r2_4 k7 14 f7, zVi r2_5 k8 14 f8]) hP hK hD hS hA ⟨hx, hb, hml, hown, hts⟩ (zf_X9_hasNumber l dC dI r0_4 p1 v1_0 r1_1 r1_2 r1_3 r1_4 v1_5 r1_6 r1_7 r1_8 v2_0 v2_1 r2_2 r2_3 r2_4 r2_5 r2_6 r2_7 r2_8 r2_9 o_1 hqo_1 s.heap.size) (cwV 1 hts gX11_number_X9_hasNumber rfl rfl rfl zhd_X9_hasNumber ⟨Nat.le_of_ble_eq_true rfl, Nat.le_of_ble_eq_true rfl⟩) [1, 2] rfl (of_decide_eq_true rfl) [] rfl rfl rfl rfl hl.1 rfl (Nat.le_of_ble_eq_true rfl) dX11_number_5 ⟨Nat.le_of_ble_eq_true rfl, Nat.le_of_ble_eq_true rfl⟩ [none, some 0, some 1] (of_decide_eq_true rfl) (of_decide_eq_true rfl) rfl rfl rfl (fun H locs hw_4n hP hD hS => ?_)
  refine lv_if_ne (tgt := 14) hx hb dX11_number_8 (of_decide_eq_true rfl) (fun c_5 => ?_) (fun c_5 => ?_)
  · have hfn := (if_neg c_5).symm.trans hfn
    refine lv_iload_n hx hb dX11_number_14 rfl (lv_at hl 2 rfl) ?_
    by_cases c_6 : p2 = 0
    · have hfn := (if_pos c_6).symm.trans hfn
      refine W.eq (g2 := F0 m 15 ls [.int 0]) (by rw [c_6]) ?_
      refine lv_tableIn (tgt := 52) (off := 37) hx hb dX11_number_15 (by decide +kernel) (by decide +kernel) (by decide +kernel) (of_decide_eq_true rfl) ?_
      refine lv_aload_n hx hb dX11_number_52 rfl (lv_at hl 0 rfl) ?_
      refine va_get (D := (dC, dI)) (ci := 11) (v := .ref r0_4) (C := RX11) (T := TX11) (N := 16) hx hb hts zn_X11_number_X11 hown hK hP 0 rfl rfl 4 (of_decide_eq_true rfl) (hts (.fieldLink RX11 27 "ShortEnough" "current" "LShortEnough$Task;") zw_X11_number_634) (fun _ h9 => h9) rfl dX11_number_53 ?_
      refine va_get (D := (dC, dI)) (ci := 9) (v := .ref r1_6) (C := RX9) (T := TX9) (N := 9) hx hb hts zn_X11_number_X9 hown hK hP 1 rfl rfl 6 (of_decide_eq_true rfl) (hts (.fieldLink RX11 122 "ShortEnough$Task" "numbers" "LShortEnough$Numbers;") zw_X11_number_636) (fun _ h9 => h9) rfl dX11_number_56 ?_
      refine va_get (D := (dC, dI)) (ci := 4) (v := .ref r2_3) (C := RX4) (T := TX4) (N := 10) hx hb hts zn_X11_number_X4 hown hK hP 2 rfl rfl 3 (of_decide_eq_true rfl) (hts (.fieldLink RX11 179 "ShortEnough$Numbers" "op" "[I") zw_X11_number_638) (fun _ h9 => h9) rfl dX11_number_59 ?_
      refine lv_iload_n hx hb dX11_number_62 rfl (lv_at hl 1 rfl) ?_
      obtain ⟨h_7, hfn⟩ := zg_s hfn
      refine va_iald hx hb hK hP 3 0 rfl rfl h_7 dX11_number_63 ?_
      have ho := Option.some.inj hfn
      subst ho
      exact zri hx hb hr hK hP hD hS hQ rfl hlocks dX11_number_64
    have hfn := (if_neg c_6).symm.trans hfn
    have oc_6 := zk_ne rfl (by decide +kernel : (0 : Int32).toInt = 0) c_6
    by_cases c_8 : p2 = 1
    · have hfn := (if_pos c_8).symm.trans hfn
      refine W.eq (g2 := F0 m 15 ls [.int 1]) (by rw [c_8]) ?_
      refine lv_tableIn (tgt := 65) (off := 50) hx hb dX11_number_15 (by decide +kernel) (by decide +kernel) (by decide +kernel) (of_decide_eq_true rfl) ?_
      refine lv_aload_n hx hb dX11_number_65 rfl (lv_at hl 0 rfl) ?_
      refine va_get (D := (dC, dI)) (ci := 11) (v := .ref r0_4) (C := RX11) (T := TX11) (N := 16) hx hb hts zn_X11_number_X11 hown hK hP 0 rfl rfl 4 (of_decide_eq_true rfl) (hts (.fieldLink RX11 27 "ShortEnough" "current" "LShortEnough$Task;") zw_X11_number_634) (fun _ h9 => h9) rfl dX11_number_66 ?_
      refine va_get (D := (dC, dI)) (ci := 9) (v := .ref r1_6) (C := RX9) (T := TX9) (N := 9) hx hb hts zn_X11_number_X9 hown hK hP 1 rfl rfl 6 (of_decide_eq_true rfl) (hts (.fieldLink RX11 122 "ShortEnough$Task" "numbers" "LShortEnough$Numbers;") zw_X11_number_636) (fun _ h9 => h9) rfl dX11_number_69 ?_
      refine lv_iload_n hx hb dX11_number_72 rfl (lv_at hl 1 rfl) ?_
      refine lv_iconst (v := 0) hx hb dX11_number_73 zci_0 ?_
      obtain ⟨o_9, hqo_9, hfn⟩ := zb_s hfn
      refine zcVi (ci := 4) (rest := []) (pc' := 77) (ws' := [zV11 h0 r0_0 v0_1 r0_2 r0_3 r0_4 r0_5 r0_6 r0_7 r0_8 r0_9 r0_10 r0_11 r0_12 r0_13 r0_14 v0_15, zV9 r0_4 v1_0 r1_1 r1_2 r1_3 r1_4 v1_5 r1_6 r1_7 r1_8, zV4 r1_6 v2_0 v2_1 r2_2 r2_3 r2_4 r2_5 r2_6 r2_7 r2_8 r2_9, zVi r2_3 k3 14 f3, zVi r2_8 k4 28 f4, zV2 r1_7 v5_0 v5_1 v5_2 r5_3 r5_4 r5_5, zVi r5_3 k6 14 f6, zVi r2_4 k7 14 f7, zVi r2_5 k8 14 f8]) hP hK hD hS hA ⟨hx, hb, hml, hown, hts⟩ (zf_X4_madeOf l dC dI r1_6 p1 0 v2_0 v2_1 r2_2 r2_3 r2_4 r2_5 r2_6 r2_7 r2_8 r2_9 k4 f4 o_9 hqo_9 H.size) (cwV 2 hts gX11_number_X4_madeOf rfl rfl rfl zhd_X4_madeOf ⟨Nat.le_of_ble_eq_true rfl, Nat.le_of_ble_eq_true rfl⟩) [2, 4] rfl (of_decide_eq_true rfl) [1] rfl rfl rfl rfl hl.1 rfl (Nat.le_of_ble_eq_true rfl) dX11_number_74 ⟨Nat.le_of_ble_eq_true rfl, Nat.le_of_ble_eq_true rfl⟩ [none, none, some 0, none, some 1] (of_decide_eq_true rfl) (of_decide_eq_true rfl) rfl rfl rfl (fun H locs hP hD hS => ?_)
      have ho := Option.some.inj hfn
      subst ho
      exact zri hx hb hr hK hP hD hS hQ rfl hlocks dX11_number_77
    have hfn := (if_neg c_8).symm.trans hfn
    have oc_8 := zk_ne rfl (by decide +kernel : (1 : Int32).toInt = 1) c_8
    by_cases c_13 : p2 = 2
    · have hfn := (if_pos c_13).symm.trans hfn
      refine W.eq (g2 := F0 m 15 ls [.int 2]) (by rw [c_13]) ?_
      refine lv_tableIn (tgt := 78) (off := 63) hx hb dX11_number_15 (by decide +kernel) (by decide +kernel) (by decide +kernel) (of_decide_eq_true rfl) ?_
      refine lv_aload_n hx hb dX11_number_78 rfl (lv_at hl 0 rfl) ?_
      refine va_get (D := (dC, dI)) (ci := 11) (v := .ref r0_4) (C := RX11) (T := TX11) (N := 16) hx hb hts zn_X11_number_X11 hown hK hP 0 rfl rfl 4 (of_decide_eq_true rfl) (hts (.fieldLink RX11 27 "ShortEnough" "current" "LShortEnough$Task;") zw_X11_number_634) (fun _ h9 => h9) rfl dX11_number_79 ?_
      refine va_get (D := (dC, dI)) (ci := 9) (v := .ref r1_6) (C := RX9) (T := TX9) (N := 9) hx hb hts zn_X11_number_X9 hown hK hP 1 rfl rfl 6 (of_decide_eq_true rfl) (hts (.fieldLink RX11 122 "ShortEnough$Task" "numbers" "LShortEnough$Numbers;") zw_X11_number_636) (fun _ h9 => h9) rfl dX11_number_82 ?_
      refine lv_iload_n hx hb dX11_number_85 rfl (lv_at hl 1 rfl) ?_
      refine lv_iconst (v := 1) hx hb dX11_number_86 zci_1 ?_
      obtain ⟨o_14, hqo_14, hfn⟩ := zb_s hfn
      refine zcVi (ci := 4) (rest := []) (pc' := 90) (ws' := [zV11 h0 r0_0 v0_1 r0_2 r0_3 r0_4 r0_5 r0_6 r0_7 r0_8 r0_9 r0_10 r0_11 r0_12 r0_13 r0_14 v0_15, zV9 r0_4 v1_0 r1_1 r1_2 r1_3 r1_4 v1_5 r1_6 r1_7 r1_8, zV4 r1_6 v2_0 v2_1 r2_2 r2_3 r2_4 r2_5 r2_6 r2_7 r2_8 r2_9, zVi r2_3 k3 14 f3, zVi r2_8 k4 28 f4, zV2 r1_7 v5_0 v5_1 v5_2 r5_3 r5_4 r5_5, zVi r5_3 k6 14 f6, zVi r2_4 k7 14 f7, zVi r2_5 k8 14 f8]) hP hK hD hS hA ⟨hx, hb, hml, hown, hts⟩ (zf_X4_madeOf l dC dI r1_6 p1 1 v2_0 v2_1 r2_2 r2_3 r2_4 r2_5 r2_6 r2_7 r2_8 r2_9 k4 f4 o_14 hqo_14 H.size) (cwV 2 hts gX11_number_X4_madeOf rfl rfl rfl zhd_X4_madeOf ⟨Nat.le_of_ble_eq_true rfl, Nat.le_of_ble_eq_true rfl⟩) [2, 4] rfl (of_decide_eq_true rfl) [1] rfl rfl rfl rfl hl.1 rfl (Nat.le_of_ble_eq_true rfl) dX11_number_87 ⟨Nat.le_of_ble_eq_true rfl, Nat.le_of_ble_eq_true rfl⟩ [none, none, some 0, none, some 1] (of_decide_eq_true rfl) (of_decide_eq_true rfl) rfl rfl rfl (fun H locs hP hD hS => ?_)
      have ho := Option.some.inj hfn
      subst ho
      exact zri hx hb hr hK hP hD hS hQ rfl hlocks dX11_number_90
    have hfn := (if_neg c_13).symm.trans hfn
    have oc_13 := zk_ne rfl (by decide +kernel : (2 : Int32).toInt = 2) c_13
    by_cases c_18 : p2 = 3
    · have hfn := (if_pos c_18).symm.trans hfn
      refine W.eq (g2 := F0 m 15 ls [.int 3]) (by rw [c_18]) ?_
      refine lv_tableIn (tgt := 91) (off := 76) hx hb dX11_number_15 (by decide +kernel) (by decide +kernel) (by decide +kernel) (of_decide_eq_true rfl) ?_
      refine lv_aload_n hx hb dX11_number_91 rfl (lv_at hl 0 rfl) ?_
      refine va_get (D := (dC, dI)) (ci := 11) (v := .ref r0_4) (C := RX11) (T := TX11) (N := 16) hx hb hts zn_X11_number_X11 hown hK hP 0 rfl rfl 4 (of_decide_eq_true rfl) (hts (.fieldLink RX11 27 "ShortEnough" "current" "LShortEnough$Task;") zw_X11_number_634) (fun _ h9 => h9) rfl dX11_number_92 ?_
      refine va_get (D := (dC, dI)) (ci := 9) (v := .ref r1_7) (C := RX9) (T := TX9) (N := 9) hx hb hts zn_X11_number_X9 hown hK hP 1 rfl rfl 7 (of_decide_eq_true rfl) (hts (.fieldLink RX11 107 "ShortEnough$Task" "groups" "LShortEnough$Groups;") zw_X11_number_639) (fun _ h9 => h9) rfl dX11_number_95 ?_
      refine va_get (D := (dC, dI)) (ci := 2) (v := .ref r5_3) (C := RX2) (T := TX2) (N := 6) hx hb hts zn_X11_number_X2 hown hK hP 5 rfl rfl 3 (of_decide_eq_true rfl) (hts (.fieldLink RX11 185 "ShortEnough$Groups" "of" "[I") zw_X11_number_641) (fun _ h9 => h9) rfl dX11_number_98 ?_
      refine lv_iload_n hx hb dX11_number_101 rfl (lv_at hl 1 rfl) ?_
      obtain ⟨h_19, hfn⟩ := zg_s hfn
      refine va_iald hx hb hK hP 6 2 rfl rfl h_19 dX11_number_102 ?_
      have ho := Option.some.inj hfn
      subst ho
      exact zri hx hb hr hK hP hD hS hQ rfl hlocks dX11_number_103
    have hfn := (if_neg c_18).symm.trans hfn
    have oc_18 := zk_ne rfl (by decide +kernel : (3 : Int32).toInt = 3) c_18
    by_cases c_20 : p2 = 4
    · have hfn := (if_pos c_20).symm.trans hfn
      refine W.eq (g2 := F0 m 15 ls [.int 4]) (by rw [c_20]) ?_
      refine lv_tableIn (tgt := 104) (off := 89) hx hb dX11_number_15 (by decide +kernel) (by decide +kernel) (by decide +kernel) (of_decide_eq_true rfl) ?_
      refine lv_aload_n hx hb dX11_number_104 rfl (lv_at hl 0 rfl) ?_
      refine va_get (D := (dC, dI)) (ci := 11) (v := .ref r0_4) (C := RX11) (T := TX11) (N := 16) hx hb hts zn_X11_number_X11 hown hK hP 0 rfl rfl 4 (of_decide_eq_true rfl) (hts (.fieldLink RX11 27 "ShortEnough" "current" "LShortEnough$Task;") zw_X11_number_634) (fun _ h9 => h9) rfl dX11_number_105 ?_
      refine va_get (D := (dC, dI)) (ci := 9) (v := .ref r1_6) (C := RX9) (T := TX9) (N := 9) hx hb hts zn_X11_number_X9 hown hK hP 1 rfl rfl 6 (of_decide_eq_true rfl) (hts (.fieldLink RX11 122 "ShortEnough$Task" "numbers" "LShortEnough$Numbers;") zw_X11_number_636) (fun _ h9 => h9) rfl dX11_number_108 ?_
      refine va_get (D := (dC, dI)) (ci := 4) (v := .ref r2_4) (C := RX4) (T := TX4) (N := 10) hx hb hts zn_X11_number_X4 hown hK hP 2 rfl rfl 4 (of_decide_eq_true rfl) (hts (.fieldLink RX11 188 "ShortEnough$Numbers" "fixedAs" "[I") zw_X11_number_642) (fun _ h9 => h9) rfl dX11_number_111 ?_
      refine lv_iload_n hx hb dX11_number_114 rfl (lv_at hl 1 rfl) ?_
      obtain ⟨h_21, hfn⟩ := zg_s hfn
      refine va_iald hx hb hK hP 7 3 rfl rfl h_21 dX11_number_115 ?_
      have ho := Option.some.inj hfn
      subst ho
      exact zri hx hb hr hK hP hD hS hQ rfl hlocks dX11_number_116
    have hfn := (if_neg c_20).symm.trans hfn
    have oc_20 := zk_ne rfl (by decide +kernel : (4 : Int32).toInt = 4) c_20
    by_cases c_22 : p2 = 5
    · have hfn := (if_pos c_22).symm.trans hfn
      refine W.eq (g2 := F0 m 15 ls [.int 5]) (by rw [c_22]) ?_
      refine lv_tableIn (tgt := 117) (off := 102) hx hb dX11_number_15 (by decide +kernel) (by decide +kernel) (by decide +kernel) (of_decide_eq_true rfl) ?_
      refine lv_aload_n hx hb dX11_number_117 rfl (lv_at hl 0 rfl) ?_
      refine va_get (D := (dC, dI)) (ci := 11) (v := .ref r0_4) (C := RX11) (T := TX11) (N := 16) hx hb hts zn_X11_number_X11 hown hK hP 0 rfl rfl 4 (of_decide_eq_true rfl) (hts (.fieldLink RX11 27 "ShortEnough" "current" "LShortEnough$Task;") zw_X11_number_634) (fun _ h9 => h9) rfl dX11_number_118 ?_
      refine va_get (D := (dC, dI)) (ci := 9) (v := .ref r1_6) (C := RX9) (T := TX9) (N := 9) hx hb hts zn_X11_number_X9 hown hK hP 1 rfl rfl 6 (of_decide_eq_true rfl) (hts (.fieldLink RX11 122 "ShortEnough$Task" "numbers" "LShortEnough$Numbers;") zw_X11_number_636) (fun _ h9 => h9) rfl dX11_number_121 ?_
      refine va_get (D := (dC, dI)) (ci := 4) (v := .ref r2_5) (C := RX4) (T := TX4) (N := 10) hx hb hts zn_X11_number_X4 hown hK hP 2 rfl rfl 5 (of_decide_eq_true rfl) (hts (.fieldLink RX11 191 "ShortEnough$Numbers" "allowed" "[I") zw_X11_number_643) (fun _ h9 => h9) rfl dX11_number_124 ?_
      refine lv_iload_n hx hb dX11_number_127 rfl (lv_at hl 1 rfl) ?_
      obtain ⟨h_23, hfn⟩ := zg_s hfn
      refine va_iald hx hb hK hP 8 4 rfl rfl h_23 dX11_number_128 ?_
      have ho := Option.some.inj hfn
      subst ho
      exact zri hx hb hr hK hP hD hS hQ rfl hlocks dX11_number_129
    have hfn := (if_neg c_22).symm.trans hfn
    have oc_22 := zk_ne rfl (by decide +kernel : (5 : Int32).toInt = 5) c_22
    refine lv_tableOut (tgt := 130) hx hb dX11_number_15 (by omega) (of_decide_eq_true rfl) ?_
    refine lv_bipush (v := (-2)) hx hb dX11_number_130 zcb_m2 ?_
    have ho := Option.some.inj hfn
    subst ho
    exact zri hx hb hr hK hP hD hS hQ rfl hlocks dX11_number_132
  have hfn := (if_pos c_5).symm.trans hfn
  refine lv_bipush (v := (-2)) hx hb dX11_number_11 zcb_m2 ?_
  have ho := Option.some.inj hfn
  subst ho
  exact zri hx hb hr hK hP hD hS hQ rfl hlocks dX11_number_13
theorem zn_X11_told_X11 : ∀ w ∈ wsX110, w ∈ wsX11_told := fun _ h => List.mem_cons_of_mem _ (List.mem_append_left _ (List.mem_append_left _ (List.mem_append_right _ h)))
theorem zw_X11_told_645 : Cond.fieldLink RX11 27 "ShortEnough" "current" "LShortEnough$Task;" ∈ wsX11_told := List.mem_of_getElem? (i := 1) (by decide +kernel)
theorem zw_X11_told_646 : Cond.constantLong RX11 194 (-1000000000000000) ∈ wsX11_told := List.mem_of_getElem? (i := 2) (by decide +kernel)
theorem zn_X11_told_X9 : ∀ w ∈ wsX90, w ∈ wsX11_told := fun _ h => List.mem_cons_of_mem _ (List.mem_append_left _ (List.mem_append_right _ h))
theorem zw_X11_told_648 : Cond.fieldLink RX11 122 "ShortEnough$Task" "numbers" "LShortEnough$Numbers;" ∈ wsX11_told := List.mem_of_getElem? (i := 3) (by decide +kernel)
set_option maxHeartbeats 4000000 in
set_option maxRecDepth 100000 in
theorem zf_X11_told (l : Launch) (dC : Nat → ClassId) (dI : Nat → Nat → Nat) (h0 : Nat) (p1 : Int32) (p2 : Int32) (r0_0 : Nat) (v0_1 : Int32) (r0_2 : Nat) (r0_3 : Nat) (r0_4 : Nat) (r0_5 : Nat) (r0_6 : Nat) (r0_7 : Nat) (r0_8 : Nat) (r0_9 : Nat) (r0_10 : Nat) (r0_11 : Nat) (r0_12 : Nat) (r0_13 : Nat) (r0_14 : Nat) (v0_15 : Int32) (v1_0 : Int32) (r1_1 : Nat) (r1_2 : Nat) (r1_3 : Nat) (r1_4 : Nat) (v1_5 : Int32) (r1_6 : Nat) (r1_7 : Nat) (r1_8 : Nat) (v2_0 : Int32) (v2_1 : Int32) (r2_2 : Nat) (r2_3 : Nat) (r2_4 : Nat) (r2_5 : Nat) (r2_6 : Nat) (r2_7 : Nat) (r2_8 : Nat) (r2_9 : Nat) (k3 : Nat) (f3 : Nat → Int32) (k4 : Nat) (f4 : Nat → Int32) (o : Int64) (hfn : fn_X11_told p1 p2 v2_0 f3 f4 = some o) (sz : Nat) : zMl l yX11_told wsX11_told ({ frames := 1, cells := 0, slots := 0, locals := 22 }) (dC, dI) vwCl [.ref h0, .int p1, .int p2] [zV11 h0 r0_0 v0_1 r0_2 r0_3 r0_4 r0_5 r0_6 r0_7 r0_8 r0_9 r0_10 r0_11 r0_12 r0_13 r0_14 v0_15, zV9 r0_4 v1_0 r1_1 r1_2 r1_3 r1_4 v1_5 r1_6 r1_7 r1_8, zV4 r1_6 v2_0 v2_1 r2_2 r2_3 r2_4 r2_5 r2_6 r2_7 r2_8 r2_9, zVi r2_8 k3 28 f3, zVi r2_9 k4 28 f4] [(k3, .int), (k4, .int)] (fun r _ => r = o) [zV11 h0 r0_0 v0_1 r0_2 r0_3 r0_4 r0_5 r0_6 r0_7 r0_8 r0_9 r0_10 r0_11 r0_12 r0_13 r0_14 v0_15, zV9 r0_4 v1_0 r1_1 r1_2 r1_3 r1_4 v1_5 r1_6 r1_7 r1_8, zV4 r1_6 v2_0 v2_1 r2_2 r2_3 r2_4 r2_5 r2_6 r2_7 r2_8 r2_9, zVi r2_8 k3 28 f3, zVi r2_9 k4 28 f4] [(k3, .int), (k4, .int)] sz := by
  refine zgol (cc := cX11_told) (maxL := 3) (ret := (some .long)) (C0 := RX11) (lv0 := [(0, .ref h0), (1, .int p1), (2, .int p2)]) zpl_X11 rfl rfl rfl (Nat.le_of_ble_eq_true rfl) ?_
  intro p e s m below meth c A ls Q hx hb hr hts hown hlocks hml hP hK hD hA hS hl hQ
  unfold fn_X11_told at hfn
  refine lv_aload_n hx hb dX11_told_0 rfl (lv_at hl 0 rfl) ?_
  refine va_get (D := (dC, dI)) (ci := 11) (v := .ref r0_4) (C := RX11) (T := TX11) (N := 16) hx hb hts zn_X11_told_X11 hown hK hP 0 rfl rfl 4 (of_decide_eq_true rfl) (hts (.fieldLink RX11 27 "ShortEnough" "current" "LShortEnough$Task;") zw_X11_told_645) (fun _ h9 => h9) rfl dX11_told_1 ?_
  refine lv_iload_n hx hb dX11_told_4 rfl (lv_at hl 1 rfl) ?_
  obtain ⟨o_1, hqo_1, hfn⟩ := zb_s hfn
  refine zcVb (ci := 9) (rest := []) (pc' := 8) (ws' := [zV11 h0 r0_0 v0_1 r0_2 r0_3 r0_4 r0_5 r0_6 r0_7 r0_8 r0_9 r0_10 r0_11 r0_12 r0_13 r0_14 v0_15, zV9 r0_4 v1_0 r1_1 r1_2 r1_3 r1_4 v1_5 r1_6 r1_7 r1_8, zV4 r1_6 v2_0 v2_1 r2_2 r2_3 r2_4 r2_5 r2_6 r2_7 r2_8 r2_9, zVi r2_8 k3 28 f3, zVi r2_9 k4 28 f4]) hP hK hD hS hA ⟨hx, hb, hml, hown, hts⟩ (zf_X9_hasNumber l dC dI r0_4 p1 v1_0 r1_1 r1_2 r1_3 r1_4 v1_5 r1_6 r1_7 r1_8 v2_0 v2_1 r2_2 r2_3 r2_4 r2_5 r2_6 r2_7 r2_8 r2_9 o_1 hqo_1 s.heap.size) (cwV 1 hts gX11_told_X9_hasNumber rfl rfl rfl zhd_X9_hasNumber ⟨Nat.le_of_ble_eq_true rfl, Nat.le_of_ble_eq_true rfl⟩) [1, 2] rfl (of_decide_eq_true rfl) [] rfl rfl rfl rfl hl.1 rfl (Nat.le_of_ble_eq_true rfl) dX11_told_5 ⟨Nat.le_of_ble_eq_true rfl, Nat.le_of_ble_eq_true rfl⟩ [none, some 0, some 1] (of_decide_eq_true rfl) (of_decide_eq_true rfl) rfl rfl rfl (fun H locs hw_4n hP hD hS => ?_)
  refine lv_if_eq (tgt := 20) hx hb dX11_told_8 (of_decide_eq_true rfl) (fun c_5 => ?_) (fun c_5 => ?_)
  · have hfn := (if_pos c_5).symm.trans hfn
    refine lv_ldc2 (v := (-1000000000000000)) hx hb hown (hts (.constantLong RX11 194 (-1000000000000000)) zw_X11_told_646) dX11_told_20 ?_
    have ho := Option.some.inj hfn
    subst ho
    exact zrl hx hb hr hK hP hD hS hQ rfl hlocks dX11_told_23
  have hfn := (if_neg c_5).symm.trans hfn
  refine lv_iload_n hx hb dX11_told_11 rfl (lv_at hl 2 rfl) ?_
  refine lv_if_lt (tgt := 20) hx hb dX11_told_12 (of_decide_eq_true rfl) (fun c_6 => ?_) (fun c_6 => ?_)
  · have hfn := (if_pos c_6).symm.trans hfn
    refine lv_ldc2 (v := (-1000000000000000)) hx hb hown (hts (.constantLong RX11 194 (-1000000000000000)) zw_X11_told_646) dX11_told_20 ?_
    have ho := Option.some.inj hfn
    subst ho
    exact zrl hx hb hr hK hP hD hS hQ rfl hlocks dX11_told_23
  have hfn := (if_neg c_6).symm.trans hfn
  refine lv_iload_n hx hb dX11_told_15 rfl (lv_at hl 2 rfl) ?_
  refine lv_iconst (v := 1) hx hb dX11_told_16 zci_1 ?_
  refine lv_icmp_le (tgt := 24) hx hb dX11_told_17 (of_decide_eq_true rfl) (fun c_7 => ?_) (fun c_7 => ?_)
  · have hfn := (if_pos c_7).symm.trans hfn
    refine lv_aload_n hx hb dX11_told_24 rfl (lv_at hl 0 rfl) ?_
    refine va_get (D := (dC, dI)) (ci := 11) (v := .ref r0_4) (C := RX11) (T := TX11) (N := 16) hx hb hts zn_X11_told_X11 hown hK hP 0 rfl rfl 4 (of_decide_eq_true rfl) (hts (.fieldLink RX11 27 "ShortEnough" "current" "LShortEnough$Task;") zw_X11_told_645) (fun _ h9 => h9) rfl dX11_told_25 ?_
    refine va_get (D := (dC, dI)) (ci := 9) (v := .ref r1_6) (C := RX9) (T := TX9) (N := 9) hx hb hts zn_X11_told_X9 hown hK hP 1 rfl rfl 6 (of_decide_eq_true rfl) (hts (.fieldLink RX11 122 "ShortEnough$Task" "numbers" "LShortEnough$Numbers;") zw_X11_told_648) (fun _ h9 => h9) rfl dX11_told_28 ?_
    refine lv_iload_n hx hb dX11_told_31 rfl (lv_at hl 1 rfl) ?_
    refine lv_iload_n hx hb dX11_told_32 rfl (lv_at hl 2 rfl) ?_
    obtain ⟨o_8, hqo_8, hfn⟩ := zb_s hfn
    refine zcVi (ci := 4) (rest := []) (pc' := 36) (ws' := [zV11 h0 r0_0 v0_1 r0_2 r0_3 r0_4 r0_5 r0_6 r0_7 r0_8 r0_9 r0_10 r0_11 r0_12 r0_13 r0_14 v0_15, zV9 r0_4 v1_0 r1_1 r1_2 r1_3 r1_4 v1_5 r1_6 r1_7 r1_8, zV4 r1_6 v2_0 v2_1 r2_2 r2_3 r2_4 r2_5 r2_6 r2_7 r2_8 r2_9, zVi r2_8 k3 28 f3, zVi r2_9 k4 28 f4]) hP hK hD hS hA ⟨hx, hb, hml, hown, hts⟩ (zf_X4_madeOf l dC dI r1_6 p1 p2 v2_0 v2_1 r2_2 r2_3 r2_4 r2_5 r2_6 r2_7 r2_8 r2_9 k3 f3 o_8 hqo_8 H.size) (cwV 2 hts gX11_told_X4_madeOf rfl rfl rfl zhd_X4_madeOf ⟨Nat.le_of_ble_eq_true rfl, Nat.le_of_ble_eq_true rfl⟩) [2, 3] rfl (of_decide_eq_true rfl) [0] rfl rfl rfl rfl hl.1 rfl (Nat.le_of_ble_eq_true rfl) dX11_told_33 ⟨Nat.le_of_ble_eq_true rfl, Nat.le_of_ble_eq_true rfl⟩ [none, none, some 0, some 1] (of_decide_eq_true rfl) (of_decide_eq_true rfl) rfl rfl rfl (fun H locs hP hD hS => ?_)
    refine lv_iconst (v := (-1)) hx hb dX11_told_36 zci_m1 ?_
    refine lv_icmp_eq (tgt := 44) hx hb dX11_told_37 (of_decide_eq_true rfl) (fun c_12 => ?_) (fun c_12 => ?_)
    · have hfn := (if_pos c_12).symm.trans hfn
      refine lv_aload_n hx hb dX11_told_44 rfl (lv_at hl 0 rfl) ?_
      refine va_get (D := (dC, dI)) (ci := 11) (v := .ref r0_4) (C := RX11) (T := TX11) (N := 16) hx hb hts zn_X11_told_X11 hown hK hP 0 rfl rfl 4 (of_decide_eq_true rfl) (hts (.fieldLink RX11 27 "ShortEnough" "current" "LShortEnough$Task;") zw_X11_told_645) (fun _ h9 => h9) rfl dX11_told_45 ?_
      refine va_get (D := (dC, dI)) (ci := 9) (v := .ref r1_6) (C := RX9) (T := TX9) (N := 9) hx hb hts zn_X11_told_X9 hown hK hP 1 rfl rfl 6 (of_decide_eq_true rfl) (hts (.fieldLink RX11 122 "ShortEnough$Task" "numbers" "LShortEnough$Numbers;") zw_X11_told_648) (fun _ h9 => h9) rfl dX11_told_48 ?_
      refine lv_iload_n hx hb dX11_told_51 rfl (lv_at hl 1 rfl) ?_
      refine lv_iload_n hx hb dX11_told_52 rfl (lv_at hl 2 rfl) ?_
      obtain ⟨o_13, hqo_13, hfn⟩ := zb_s hfn
      refine zcVl (ci := 4) (rest := []) (pc' := 56) (ws' := [zV11 h0 r0_0 v0_1 r0_2 r0_3 r0_4 r0_5 r0_6 r0_7 r0_8 r0_9 r0_10 r0_11 r0_12 r0_13 r0_14 v0_15, zV9 r0_4 v1_0 r1_1 r1_2 r1_3 r1_4 v1_5 r1_6 r1_7 r1_8, zV4 r1_6 v2_0 v2_1 r2_2 r2_3 r2_4 r2_5 r2_6 r2_7 r2_8 r2_9, zVi r2_8 k3 28 f3, zVi r2_9 k4 28 f4]) hP hK hD hS hA ⟨hx, hb, hml, hown, hts⟩ (zf_X4_amountOf l dC dI r1_6 p1 p2 v2_0 v2_1 r2_2 r2_3 r2_4 r2_5 r2_6 r2_7 r2_8 r2_9 k4 f4 o_13 hqo_13 H.size) (cwV 2 hts gX11_told_X4_amountOf rfl rfl rfl zhd_X4_amountOf ⟨Nat.le_of_ble_eq_true rfl, Nat.le_of_ble_eq_true rfl⟩) [2, 4] rfl (of_decide_eq_true rfl) [1] rfl rfl rfl rfl hl.1 rfl (Nat.le_of_ble_eq_true rfl) dX11_told_53 ⟨Nat.le_of_ble_eq_true rfl, Nat.le_of_ble_eq_true rfl⟩ [none, none, some 0, none, some 1] (of_decide_eq_true rfl) (of_decide_eq_true rfl) rfl rfl rfl (fun H locs hP hD hS => ?_)
      have ho := Option.some.inj hfn
      subst ho
      exact zrl hx hb hr hK hP hD hS hQ rfl hlocks dX11_told_56
    have hfn := (if_neg c_12).symm.trans hfn
    refine lv_ldc2 (v := (-1000000000000000)) hx hb hown (hts (.constantLong RX11 194 (-1000000000000000)) zw_X11_told_646) dX11_told_40 ?_
    have ho := Option.some.inj hfn
    subst ho
    exact zrl hx hb hr hK hP hD hS hQ rfl hlocks dX11_told_43
  have hfn := (if_neg c_7).symm.trans hfn
  refine lv_ldc2 (v := (-1000000000000000)) hx hb hown (hts (.constantLong RX11 194 (-1000000000000000)) zw_X11_told_646) dX11_told_20 ?_
  have ho := Option.some.inj hfn
  subst ho
  exact zrl hx hb hr hK hP hD hS hQ rfl hlocks dX11_told_23
theorem zn_X11_range_X11 : ∀ w ∈ wsX110, w ∈ wsX11_range := fun _ h => List.mem_cons_of_mem _ (List.mem_append_left _ (List.mem_append_left _ (List.mem_append_left _ (List.mem_append_right _ h))))
theorem zw_X11_range_650 : Cond.fieldLink RX11 27 "ShortEnough" "current" "LShortEnough$Task;" ∈ wsX11_range := List.mem_of_getElem? (i := 1) (by decide +kernel)
theorem zw_X11_range_651 : Cond.constantLong RX11 194 (-1000000000000000) ∈ wsX11_range := List.mem_of_getElem? (i := 4) (by decide +kernel)
theorem zn_X11_range_X9 : ∀ w ∈ wsX90, w ∈ wsX11_range := fun _ h => List.mem_cons_of_mem _ (List.mem_append_left _ (List.mem_append_left _ (List.mem_append_right _ h)))
theorem zw_X11_range_653 : Cond.fieldLink RX11 200 "ShortEnough$Task" "ranges" "LShortEnough$Ranges;" ∈ wsX11_range := List.mem_of_getElem? (i := 2) (by decide +kernel)
theorem zn_X11_range_X6 : ∀ w ∈ wsX60, w ∈ wsX11_range := fun _ h => List.mem_cons_of_mem _ (List.mem_append_left _ (List.mem_append_right _ h))
theorem zw_X11_range_655 : Cond.fieldLink RX11 203 "ShortEnough$Ranges" "wide" "[Z" ∈ wsX11_range := List.mem_of_getElem? (i := 3) (by decide +kernel)
theorem zw_X11_range_656 : Cond.fieldLink RX11 211 "ShortEnough$Ranges" "low" "[J" ∈ wsX11_range := List.mem_of_getElem? (i := 6) (by decide +kernel)
theorem zw_X11_range_657 : Cond.fieldLink RX11 207 "ShortEnough$Ranges" "high" "[J" ∈ wsX11_range := List.mem_of_getElem? (i := 5) (by decide +kernel)
set_option maxHeartbeats 4000000 in
set_option maxRecDepth 100000 in
theorem zf_X11_range (l : Launch) (dC : Nat → ClassId) (dI : Nat → Nat → Nat) (h0 : Nat) (p1 : Int32) (p2 : Int32) (r0_0 : Nat) (v0_1 : Int32) (r0_2 : Nat) (r0_3 : Nat) (r0_4 : Nat) (r0_5 : Nat) (r0_6 : Nat) (r0_7 : Nat) (r0_8 : Nat) (r0_9 : Nat) (r0_10 : Nat) (r0_11 : Nat) (r0_12 : Nat) (r0_13 : Nat) (r0_14 : Nat) (v0_15 : Int32) (v1_0 : Int32) (r1_1 : Nat) (r1_2 : Nat) (r1_3 : Nat) (r1_4 : Nat) (v1_5 : Int32) (r1_6 : Nat) (r1_7 : Nat) (r1_8 : Nat) (v2_0 : Int32) (v2_1 : Int32) (r2_2 : Nat) (r2_3 : Nat) (r2_4 : Nat) (r2_5 : Nat) (r2_6 : Nat) (r2_7 : Nat) (r2_8 : Nat) (r2_9 : Nat) (r3_0 : Nat) (r3_1 : Nat) (r3_2 : Nat) (k4 : Nat) (f4 : Nat → Int32) (k5 : Nat) (f5 : Nat → Int64) (k6 : Nat) (f6 : Nat → Int64) (o : Int64) (hfn : fn_X11_range p1 p2 v2_0 f4 f5 f6 = some o) (sz : Nat) : zMl l yX11_range wsX11_range ({ frames := 1, cells := 0, slots := 0, locals := 21 }) (dC, dI) vwCl [.ref h0, .int p1, .int p2] [zV11 h0 r0_0 v0_1 r0_2 r0_3 r0_4 r0_5 r0_6 r0_7 r0_8 r0_9 r0_10 r0_11 r0_12 r0_13 r0_14 v0_15, zV9 r0_4 v1_0 r1_1 r1_2 r1_3 r1_4 v1_5 r1_6 r1_7 r1_8, zV4 r1_6 v2_0 v2_1 r2_2 r2_3 r2_4 r2_5 r2_6 r2_7 r2_8 r2_9, zV6 r1_8 r3_0 r3_1 r3_2, zVi r3_2 k4 14 f4, zVl r3_0 k5 14 f5, zVl r3_1 k6 14 f6] [(k4, .boolean), (k5, .long), (k6, .long)] (fun r _ => r = o) [zV11 h0 r0_0 v0_1 r0_2 r0_3 r0_4 r0_5 r0_6 r0_7 r0_8 r0_9 r0_10 r0_11 r0_12 r0_13 r0_14 v0_15, zV9 r0_4 v1_0 r1_1 r1_2 r1_3 r1_4 v1_5 r1_6 r1_7 r1_8, zV4 r1_6 v2_0 v2_1 r2_2 r2_3 r2_4 r2_5 r2_6 r2_7 r2_8 r2_9, zV6 r1_8 r3_0 r3_1 r3_2, zVi r3_2 k4 14 f4, zVl r3_0 k5 14 f5, zVl r3_1 k6 14 f6] [(k4, .boolean), (k5, .long), (k6, .long)] sz := by
  refine zgol (cc := cX11_range) (maxL := 3) (ret := (some .long)) (C0 := RX11) (lv0 := [(0, .ref h0), (1, .int p1), (2, .int p2)]) zpl_X11 rfl rfl rfl (Nat.le_of_ble_eq_true rfl) ?_
  intro p e s m below meth c A ls Q hx hb hr hts hown hlocks hml hP hK hD hA hS hl hQ
  unfold fn_X11_range at hfn
  refine lv_aload_n hx hb dX11_range_0 rfl (lv_at hl 0 rfl) ?_
  refine va_get (D := (dC, dI)) (ci := 11) (v := .ref r0_4) (C := RX11) (T := TX11) (N := 16) hx hb hts zn_X11_range_X11 hown hK hP 0 rfl rfl 4 (of_decide_eq_true rfl) (hts (.fieldLink RX11 27 "ShortEnough" "current" "LShortEnough$Task;") zw_X11_range_650) (fun _ h9 => h9) rfl dX11_range_1 ?_
  refine lv_iload_n hx hb dX11_range_4 rfl (lv_at hl 1 rfl) ?_
  obtain ⟨o_1, hqo_1, hfn⟩ := zb_s hfn
  refine zcVb (ci := 9) (rest := []) (pc' := 8) (ws' := [zV11 h0 r0_0 v0_1 r0_2 r0_3 r0_4 r0_5 r0_6 r0_7 r0_8 r0_9 r0_10 r0_11 r0_12 r0_13 r0_14 v0_15, zV9 r0_4 v1_0 r1_1 r1_2 r1_3 r1_4 v1_5 r1_6 r1_7 r1_8, zV4 r1_6 v2_0 v2_1 r2_2 r2_3 r2_4 r2_5 r2_6 r2_7 r2_8 r2_9, zV6 r1_8 r3_0 r3_1 r3_2, zVi r3_2 k4 14 f4, zVl r3_0 k5 14 f5, zVl r3_1 k6 14 f6]) hP hK hD hS hA ⟨hx, hb, hml, hown, hts⟩ (zf_X9_hasNumber l dC dI r0_4 p1 v1_0 r1_1 r1_2 r1_3 r1_4 v1_5 r1_6 r1_7 r1_8 v2_0 v2_1 r2_2 r2_3 r2_4 r2_5 r2_6 r2_7 r2_8 r2_9 o_1 hqo_1 s.heap.size) (cwV 1 hts gX11_range_X9_hasNumber rfl rfl rfl zhd_X9_hasNumber ⟨Nat.le_of_ble_eq_true rfl, Nat.le_of_ble_eq_true rfl⟩) [1, 2] rfl (of_decide_eq_true rfl) [] rfl rfl rfl rfl hl.1 rfl (Nat.le_of_ble_eq_true rfl) dX11_range_5 ⟨Nat.le_of_ble_eq_true rfl, Nat.le_of_ble_eq_true rfl⟩ [none, some 0, some 1] (of_decide_eq_true rfl) (of_decide_eq_true rfl) rfl rfl rfl (fun H locs hw_4n hP hD hS => ?_)
  refine lv_if_eq (tgt := 26) hx hb dX11_range_8 (of_decide_eq_true rfl) (fun c_5 => ?_) (fun c_5 => ?_)
  · have hfn := (if_pos c_5).symm.trans hfn
    refine lv_ldc2 (v := (-1000000000000000)) hx hb hown (hts (.constantLong RX11 194 (-1000000000000000)) zw_X11_range_651) dX11_range_26 ?_
    have ho := Option.some.inj hfn
    subst ho
    exact zrl hx hb hr hK hP hD hS hQ rfl hlocks dX11_range_29
  have hfn := (if_neg c_5).symm.trans hfn
  refine lv_aload_n hx hb dX11_range_11 rfl (lv_at hl 0 rfl) ?_
  refine va_get (D := (dC, dI)) (ci := 11) (v := .ref r0_4) (C := RX11) (T := TX11) (N := 16) hx hb hts zn_X11_range_X11 hown hK hP 0 rfl rfl 4 (of_decide_eq_true rfl) (hts (.fieldLink RX11 27 "ShortEnough" "current" "LShortEnough$Task;") zw_X11_range_650) (fun _ h9 => h9) rfl dX11_range_12 ?_
  refine va_get (D := (dC, dI)) (ci := 9) (v := .ref r1_8) (C := RX9) (T := TX9) (N := 9) hx hb hts zn_X11_range_X9 hown hK hP 1 rfl rfl 8 (of_decide_eq_true rfl) (hts (.fieldLink RX11 200 "ShortEnough$Task" "ranges" "LShortEnough$Ranges;") zw_X11_range_653) (fun _ h9 => h9) rfl dX11_range_15 ?_
  refine va_get (D := (dC, dI)) (ci := 6) (v := .ref r3_2) (C := RX6) (T := TX6) (N := 3) hx hb hts zn_X11_range_X6 hown hK hP 3 rfl rfl 2 (of_decide_eq_true rfl) (hts (.fieldLink RX11 203 "ShortEnough$Ranges" "wide" "[Z") zw_X11_range_655) (fun _ h9 => h9) rfl dX11_range_18 ?_
  refine lv_iload_n hx hb dX11_range_21 rfl (lv_at hl 1 rfl) ?_
  obtain ⟨h_6, hfn⟩ := zg_s hfn
  refine va_zald hx hb hK hP 4 0 rfl rfl h_6 dX11_range_22 ?_
  refine lv_if_eq (tgt := 30) hx hb dX11_range_23 (of_decide_eq_true rfl) (fun c_7 => ?_) (fun c_7 => ?_)
  · have hfn := (if_pos c_7).symm.trans hfn
    refine lv_iload_n hx hb dX11_range_30 rfl (lv_at hl 2 rfl) ?_
    refine lv_if_eq (tgt := 49) hx hb dX11_range_31 (of_decide_eq_true rfl) (fun c_8 => ?_) (fun c_8 => ?_)
    · have hfn := (if_pos c_8).symm.trans hfn
      refine lv_aload_n hx hb dX11_range_49 rfl (lv_at hl 0 rfl) ?_
      refine va_get (D := (dC, dI)) (ci := 11) (v := .ref r0_4) (C := RX11) (T := TX11) (N := 16) hx hb hts zn_X11_range_X11 hown hK hP 0 rfl rfl 4 (of_decide_eq_true rfl) (hts (.fieldLink RX11 27 "ShortEnough" "current" "LShortEnough$Task;") zw_X11_range_650) (fun _ h9 => h9) rfl dX11_range_50 ?_
      refine va_get (D := (dC, dI)) (ci := 9) (v := .ref r1_8) (C := RX9) (T := TX9) (N := 9) hx hb hts zn_X11_range_X9 hown hK hP 1 rfl rfl 8 (of_decide_eq_true rfl) (hts (.fieldLink RX11 200 "ShortEnough$Task" "ranges" "LShortEnough$Ranges;") zw_X11_range_653) (fun _ h9 => h9) rfl dX11_range_53 ?_
      refine va_get (D := (dC, dI)) (ci := 6) (v := .ref r3_0) (C := RX6) (T := TX6) (N := 3) hx hb hts zn_X11_range_X6 hown hK hP 3 rfl rfl 0 (of_decide_eq_true rfl) (hts (.fieldLink RX11 211 "ShortEnough$Ranges" "low" "[J") zw_X11_range_656) (fun _ h9 => h9) rfl dX11_range_56 ?_
      refine lv_iload_n hx hb dX11_range_59 rfl (lv_at hl 1 rfl) ?_
      refine va_lald hx hb hK hP 5 1 rfl rfl h_6 dX11_range_60 ?_
      have ho := Option.some.inj hfn
      subst ho
      exact zrl hx hb hr hK hP hD hS hQ rfl hlocks dX11_range_61
    have hfn := (if_neg c_8).symm.trans hfn
    refine lv_aload_n hx hb dX11_range_34 rfl (lv_at hl 0 rfl) ?_
    refine va_get (D := (dC, dI)) (ci := 11) (v := .ref r0_4) (C := RX11) (T := TX11) (N := 16) hx hb hts zn_X11_range_X11 hown hK hP 0 rfl rfl 4 (of_decide_eq_true rfl) (hts (.fieldLink RX11 27 "ShortEnough" "current" "LShortEnough$Task;") zw_X11_range_650) (fun _ h9 => h9) rfl dX11_range_35 ?_
    refine va_get (D := (dC, dI)) (ci := 9) (v := .ref r1_8) (C := RX9) (T := TX9) (N := 9) hx hb hts zn_X11_range_X9 hown hK hP 1 rfl rfl 8 (of_decide_eq_true rfl) (hts (.fieldLink RX11 200 "ShortEnough$Task" "ranges" "LShortEnough$Ranges;") zw_X11_range_653) (fun _ h9 => h9) rfl dX11_range_38 ?_
    refine va_get (D := (dC, dI)) (ci := 6) (v := .ref r3_1) (C := RX6) (T := TX6) (N := 3) hx hb hts zn_X11_range_X6 hown hK hP 3 rfl rfl 1 (of_decide_eq_true rfl) (hts (.fieldLink RX11 207 "ShortEnough$Ranges" "high" "[J") zw_X11_range_657) (fun _ h9 => h9) rfl dX11_range_41 ?_
    refine lv_iload_n hx hb dX11_range_44 rfl (lv_at hl 1 rfl) ?_
    refine va_lald hx hb hK hP 6 2 rfl rfl h_6 dX11_range_45 ?_
    refine lv_goto (tgt := 61) hx hb dX11_range_46 (of_decide_eq_true rfl) ?_
    have ho := Option.some.inj hfn
    subst ho
    exact zrl hx hb hr hK hP hD hS hQ rfl hlocks dX11_range_61
  have hfn := (if_neg c_7).symm.trans hfn
  refine lv_ldc2 (v := (-1000000000000000)) hx hb hown (hts (.constantLong RX11 194 (-1000000000000000)) zw_X11_range_651) dX11_range_26 ?_
  have ho := Option.some.inj hfn
  subst ho
  exact zrl hx hb hr hK hP hD hS hQ rfl hlocks dX11_range_29
theorem zn_X11_uses_X11 : ∀ w ∈ wsX110, w ∈ wsX11_uses := fun _ h => List.mem_cons_of_mem _ (List.mem_append_left _ (List.mem_append_left _ (List.mem_append_right _ h)))
theorem zw_X11_uses_659 : Cond.fieldLink RX11 27 "ShortEnough" "current" "LShortEnough$Task;" ∈ wsX11_uses := List.mem_of_getElem? (i := 1) (by decide +kernel)
theorem zn_X11_uses_X9 : ∀ w ∈ wsX90, w ∈ wsX11_uses := fun _ h => List.mem_cons_of_mem _ (List.mem_append_left _ (List.mem_append_right _ h))
theorem zw_X11_uses_661 : Cond.fieldLink RX11 122 "ShortEnough$Task" "numbers" "LShortEnough$Numbers;" ∈ wsX11_uses := List.mem_of_getElem? (i := 2) (by decide +kernel)
set_option maxHeartbeats 4000000 in
set_option maxRecDepth 100000 in
theorem zf_X11_uses (l : Launch) (dC : Nat → ClassId) (dI : Nat → Nat → Nat) (h0 : Nat) (p1 : Int32) (r0_0 : Nat) (v0_1 : Int32) (r0_2 : Nat) (r0_3 : Nat) (r0_4 : Nat) (r0_5 : Nat) (r0_6 : Nat) (r0_7 : Nat) (r0_8 : Nat) (r0_9 : Nat) (r0_10 : Nat) (r0_11 : Nat) (r0_12 : Nat) (r0_13 : Nat) (r0_14 : Nat) (v0_15 : Int32) (v1_0 : Int32) (r1_1 : Nat) (r1_2 : Nat) (r1_3 : Nat) (r1_4 : Nat) (v1_5 : Int32) (r1_6 : Nat) (r1_7 : Nat) (r1_8 : Nat) (v2_0 : Int32) (v2_1 : Int32) (r2_2 : Nat) (r2_3 : Nat) (r2_4 : Nat) (r2_5 : Nat) (r2_6 : Nat) (r2_7 : Nat) (r2_8 : Nat) (r2_9 : Nat) (k3 : Nat) (f3 : Nat → Int32) (o : Int32) (hfn : fn_X11_uses p1 v2_0 f3 = some o) (sz : Nat) : zMi l yX11_uses wsX11_uses ({ frames := 2, cells := 0, slots := 0, locals := 45 }) (dC, dI) vwCl [.ref h0, .int p1] [zV11 h0 r0_0 v0_1 r0_2 r0_3 r0_4 r0_5 r0_6 r0_7 r0_8 r0_9 r0_10 r0_11 r0_12 r0_13 r0_14 v0_15, zV9 r0_4 v1_0 r1_1 r1_2 r1_3 r1_4 v1_5 r1_6 r1_7 r1_8, zV4 r1_6 v2_0 v2_1 r2_2 r2_3 r2_4 r2_5 r2_6 r2_7 r2_8 r2_9, zVi r2_8 k3 28 f3] [(k3, .int)] (fun r _ => r = o) [zV11 h0 r0_0 v0_1 r0_2 r0_3 r0_4 r0_5 r0_6 r0_7 r0_8 r0_9 r0_10 r0_11 r0_12 r0_13 r0_14 v0_15, zV9 r0_4 v1_0 r1_1 r1_2 r1_3 r1_4 v1_5 r1_6 r1_7 r1_8, zV4 r1_6 v2_0 v2_1 r2_2 r2_3 r2_4 r2_5 r2_6 r2_7 r2_8 r2_9, zVi r2_8 k3 28 f3] [(k3, .int)] sz := by
  refine zgoi (cc := cX11_uses) (maxL := 2) (ret := (some .int)) (C0 := RX11) (lv0 := [(0, .ref h0), (1, .int p1)]) zpl_X11 rfl rfl rfl (Nat.le_of_ble_eq_true rfl) ?_
  intro p e s m below meth c A ls Q hx hb hr hts hown hlocks hml hP hK hD hA hS hl hQ
  unfold fn_X11_uses at hfn
  refine lv_aload_n hx hb dX11_uses_0 rfl (lv_at hl 0 rfl) ?_
  refine va_get (D := (dC, dI)) (ci := 11) (v := .ref r0_4) (C := RX11) (T := TX11) (N := 16) hx hb hts zn_X11_uses_X11 hown hK hP 0 rfl rfl 4 (of_decide_eq_true rfl) (hts (.fieldLink RX11 27 "ShortEnough" "current" "LShortEnough$Task;") zw_X11_uses_659) (fun _ h9 => h9) rfl dX11_uses_1 ?_
  refine lv_iload_n hx hb dX11_uses_4 rfl (lv_at hl 1 rfl) ?_
  obtain ⟨o_1, hqo_1, hfn⟩ := zb_s hfn
  refine zcVb (ci := 9) (rest := []) (pc' := 8) (ws' := [zV11 h0 r0_0 v0_1 r0_2 r0_3 r0_4 r0_5 r0_6 r0_7 r0_8 r0_9 r0_10 r0_11 r0_12 r0_13 r0_14 v0_15, zV9 r0_4 v1_0 r1_1 r1_2 r1_3 r1_4 v1_5 r1_6 r1_7 r1_8, zV4 r1_6 v2_0 v2_1 r2_2 r2_3 r2_4 r2_5 r2_6 r2_7 r2_8 r2_9, zVi r2_8 k3 28 f3]) hP hK hD hS hA ⟨hx, hb, hml, hown, hts⟩ (zf_X9_hasNumber l dC dI r0_4 p1 v1_0 r1_1 r1_2 r1_3 r1_4 v1_5 r1_6 r1_7 r1_8 v2_0 v2_1 r2_2 r2_3 r2_4 r2_5 r2_6 r2_7 r2_8 r2_9 o_1 hqo_1 s.heap.size) (cwV 1 hts gX11_uses_X9_hasNumber rfl rfl rfl zhd_X9_hasNumber ⟨Nat.le_of_ble_eq_true rfl, Nat.le_of_ble_eq_true rfl⟩) [1, 2] rfl (of_decide_eq_true rfl) [] rfl rfl rfl rfl hl.1 rfl (Nat.le_of_ble_eq_true rfl) dX11_uses_5 ⟨Nat.le_of_ble_eq_true rfl, Nat.le_of_ble_eq_true rfl⟩ [none, some 0, some 1] (of_decide_eq_true rfl) (of_decide_eq_true rfl) rfl rfl rfl (fun H locs hw_4n hP hD hS => ?_)
  refine lv_if_eq (tgt := 25) hx hb dX11_uses_8 (of_decide_eq_true rfl) (fun c_5 => ?_) (fun c_5 => ?_)
  · have hfn := (if_pos c_5).symm.trans hfn
    refine lv_iconst (v := (-1)) hx hb dX11_uses_25 zci_m1 ?_
    have ho := Option.some.inj hfn
    subst ho
    exact zri hx hb hr hK hP hD hS hQ rfl hlocks dX11_uses_26
  have hfn := (if_neg c_5).symm.trans hfn
  refine lv_aload_n hx hb dX11_uses_11 rfl (lv_at hl 0 rfl) ?_
  refine va_get (D := (dC, dI)) (ci := 11) (v := .ref r0_4) (C := RX11) (T := TX11) (N := 16) hx hb hts zn_X11_uses_X11 hown hK hP 0 rfl rfl 4 (of_decide_eq_true rfl) (hts (.fieldLink RX11 27 "ShortEnough" "current" "LShortEnough$Task;") zw_X11_uses_659) (fun _ h9 => h9) rfl dX11_uses_12 ?_
  refine va_get (D := (dC, dI)) (ci := 9) (v := .ref r1_6) (C := RX9) (T := TX9) (N := 9) hx hb hts zn_X11_uses_X9 hown hK hP 1 rfl rfl 6 (of_decide_eq_true rfl) (hts (.fieldLink RX11 122 "ShortEnough$Task" "numbers" "LShortEnough$Numbers;") zw_X11_uses_661) (fun _ h9 => h9) rfl dX11_uses_15 ?_
  refine lv_iload_n hx hb dX11_uses_18 rfl (lv_at hl 1 rfl) ?_
  obtain ⟨o_6, hqo_6, hfn⟩ := zb_s hfn
  refine zcVi (ci := 4) (rest := []) (pc' := 22) (ws' := [zV11 h0 r0_0 v0_1 r0_2 r0_3 r0_4 r0_5 r0_6 r0_7 r0_8 r0_9 r0_10 r0_11 r0_12 r0_13 r0_14 v0_15, zV9 r0_4 v1_0 r1_1 r1_2 r1_3 r1_4 v1_5 r1_6 r1_7 r1_8, zV4 r1_6 v2_0 v2_1 r2_2 r2_3 r2_4 r2_5 r2_6 r2_7 r2_8 r2_9, zVi r2_8 k3 28 f3]) hP hK hD hS hA ⟨hx, hb, hml, hown, hts⟩ (zf_X4_madeFrom l dC dI r1_6 p1 v2_0 v2_1 r2_2 r2_3 r2_4 r2_5 r2_6 r2_7 r2_8 r2_9 k3 f3 o_6 hqo_6 H.size) (cwV 1 hts gX11_uses_X4_madeFrom rfl rfl rfl zhd_X4_madeFrom ⟨Nat.le_of_ble_eq_true rfl, Nat.le_of_ble_eq_true rfl⟩) [2, 3] rfl (of_decide_eq_true rfl) [0] rfl rfl rfl rfl hl.1 rfl (Nat.le_of_ble_eq_true rfl) dX11_uses_19 ⟨Nat.le_of_ble_eq_true rfl, Nat.le_of_ble_eq_true rfl⟩ [none, none, some 0, some 1] (of_decide_eq_true rfl) (of_decide_eq_true rfl) rfl rfl rfl (fun H locs hP hD hS => ?_)
  refine lv_goto (tgt := 26) hx hb dX11_uses_22 (of_decide_eq_true rfl) ?_
  have ho := Option.some.inj hfn
  subst ho
  exact zri hx hb hr hK hP hD hS hQ rfl hlocks dX11_uses_26
theorem zn_X11_depth_X11 : ∀ w ∈ wsX110, w ∈ wsX11_depth := fun _ h => List.mem_cons_of_mem _ (List.mem_append_left _ (List.mem_append_left _ (List.mem_append_right _ h)))
theorem zw_X11_depth_663 : Cond.fieldLink RX11 27 "ShortEnough" "current" "LShortEnough$Task;" ∈ wsX11_depth := List.mem_of_getElem? (i := 1) (by decide +kernel)
theorem zn_X11_depth_X9 : ∀ w ∈ wsX90, w ∈ wsX11_depth := fun _ h => List.mem_cons_of_mem _ (List.mem_append_left _ (List.mem_append_right _ h))
theorem zw_X11_depth_665 : Cond.fieldLink RX11 122 "ShortEnough$Task" "numbers" "LShortEnough$Numbers;" ∈ wsX11_depth := List.mem_of_getElem? (i := 2) (by decide +kernel)
theorem zn_X11_depth_X4 : ∀ w ∈ wsX40, w ∈ wsX11_depth := fun _ h => List.mem_cons_of_mem _ (List.mem_append_right _ h)
theorem zw_X11_depth_667 : Cond.fieldLink RX11 217 "ShortEnough$Numbers" "lets" "[I" ∈ wsX11_depth := List.mem_of_getElem? (i := 3) (by decide +kernel)
set_option maxHeartbeats 4000000 in
set_option maxRecDepth 100000 in
theorem zf_X11_depth (l : Launch) (dC : Nat → ClassId) (dI : Nat → Nat → Nat) (h0 : Nat) (p1 : Int32) (r0_0 : Nat) (v0_1 : Int32) (r0_2 : Nat) (r0_3 : Nat) (r0_4 : Nat) (r0_5 : Nat) (r0_6 : Nat) (r0_7 : Nat) (r0_8 : Nat) (r0_9 : Nat) (r0_10 : Nat) (r0_11 : Nat) (r0_12 : Nat) (r0_13 : Nat) (r0_14 : Nat) (v0_15 : Int32) (v1_0 : Int32) (r1_1 : Nat) (r1_2 : Nat) (r1_3 : Nat) (r1_4 : Nat) (v1_5 : Int32) (r1_6 : Nat) (r1_7 : Nat) (r1_8 : Nat) (v2_0 : Int32) (v2_1 : Int32) (r2_2 : Nat) (r2_3 : Nat) (r2_4 : Nat) (r2_5 : Nat) (r2_6 : Nat) (r2_7 : Nat) (r2_8 : Nat) (r2_9 : Nat) (k3 : Nat) (f3 : Nat → Int32) (o : Int32) (hfn : fn_X11_depth p1 v2_0 f3 = some o) (sz : Nat) : zMi l yX11_depth wsX11_depth ({ frames := 1, cells := 0, slots := 0, locals := 21 }) (dC, dI) vwCl [.ref h0, .int p1] [zV11 h0 r0_0 v0_1 r0_2 r0_3 r0_4 r0_5 r0_6 r0_7 r0_8 r0_9 r0_10 r0_11 r0_12 r0_13 r0_14 v0_15, zV9 r0_4 v1_0 r1_1 r1_2 r1_3 r1_4 v1_5 r1_6 r1_7 r1_8, zV4 r1_6 v2_0 v2_1 r2_2 r2_3 r2_4 r2_5 r2_6 r2_7 r2_8 r2_9, zVi r2_6 k3 14 f3] [(k3, .int)] (fun r _ => r = o) [zV11 h0 r0_0 v0_1 r0_2 r0_3 r0_4 r0_5 r0_6 r0_7 r0_8 r0_9 r0_10 r0_11 r0_12 r0_13 r0_14 v0_15, zV9 r0_4 v1_0 r1_1 r1_2 r1_3 r1_4 v1_5 r1_6 r1_7 r1_8, zV4 r1_6 v2_0 v2_1 r2_2 r2_3 r2_4 r2_5 r2_6 r2_7 r2_8 r2_9, zVi r2_6 k3 14 f3] [(k3, .int)] sz := by
  refine zgoi (cc := cX11_depth) (maxL := 2) (ret := (some .int)) (C0 := RX11) (lv0 := [(0, .ref h0), (1, .int p1)]) zpl_X11 rfl rfl rfl (Nat.le_of_ble_eq_true rfl) ?_
  intro p e s m below meth c A ls Q hx hb hr hts hown hlocks hml hP hK hD hA hS hl hQ
  unfold fn_X11_depth at hfn
  refine lv_aload_n hx hb dX11_depth_0 rfl (lv_at hl 0 rfl) ?_
  refine va_get (D := (dC, dI)) (ci := 11) (v := .ref r0_4) (C := RX11) (T := TX11) (N := 16) hx hb hts zn_X11_depth_X11 hown hK hP 0 rfl rfl 4 (of_decide_eq_true rfl) (hts (.fieldLink RX11 27 "ShortEnough" "current" "LShortEnough$Task;") zw_X11_depth_663) (fun _ h9 => h9) rfl dX11_depth_1 ?_
  refine lv_iload_n hx hb dX11_depth_4 rfl (lv_at hl 1 rfl) ?_
  obtain ⟨o_1, hqo_1, hfn⟩ := zb_s hfn
  refine zcVb (ci := 9) (rest := []) (pc' := 8) (ws' := [zV11 h0 r0_0 v0_1 r0_2 r0_3 r0_4 r0_5 r0_6 r0_7 r0_8 r0_9 r0_10 r0_11 r0_12 r0_13 r0_14 v0_15, zV9 r0_4 v1_0 r1_1 r1_2 r1_3 r1_4 v1_5 r1_6 r1_7 r1_8, zV4 r1_6 v2_0 v2_1 r2_2 r2_3 r2_4 r2_5 r2_6 r2_7 r2_8 r2_9, zVi r2_6 k3 14 f3]) hP hK hD hS hA ⟨hx, hb, hml, hown, hts⟩ (zf_X9_hasNumber l dC dI r0_4 p1 v1_0 r1_1 r1_2 r1_3 r1_4 v1_5 r1_6 r1_7 r1_8 v2_0 v2_1 r2_2 r2_3 r2_4 r2_5 r2_6 r2_7 r2_8 r2_9 o_1 hqo_1 s.heap.size) (cwV 1 hts gX11_depth_X9_hasNumber rfl rfl rfl zhd_X9_hasNumber ⟨Nat.le_of_ble_eq_true rfl, Nat.le_of_ble_eq_true rfl⟩) [1, 2] rfl (of_decide_eq_true rfl) [] rfl rfl rfl rfl hl.1 rfl (Nat.le_of_ble_eq_true rfl) dX11_depth_5 ⟨Nat.le_of_ble_eq_true rfl, Nat.le_of_ble_eq_true rfl⟩ [none, some 0, some 1] (of_decide_eq_true rfl) (of_decide_eq_true rfl) rfl rfl rfl (fun H locs hw_4n hP hD hS => ?_)
  refine lv_if_eq (tgt := 26) hx hb dX11_depth_8 (of_decide_eq_true rfl) (fun c_5 => ?_) (fun c_5 => ?_)
  · have hfn := (if_pos c_5).symm.trans hfn
    refine lv_iconst (v := (-1)) hx hb dX11_depth_26 zci_m1 ?_
    have ho := Option.some.inj hfn
    subst ho
    exact zri hx hb hr hK hP hD hS hQ rfl hlocks dX11_depth_27
  have hfn := (if_neg c_5).symm.trans hfn
  refine lv_aload_n hx hb dX11_depth_11 rfl (lv_at hl 0 rfl) ?_
  refine va_get (D := (dC, dI)) (ci := 11) (v := .ref r0_4) (C := RX11) (T := TX11) (N := 16) hx hb hts zn_X11_depth_X11 hown hK hP 0 rfl rfl 4 (of_decide_eq_true rfl) (hts (.fieldLink RX11 27 "ShortEnough" "current" "LShortEnough$Task;") zw_X11_depth_663) (fun _ h9 => h9) rfl dX11_depth_12 ?_
  refine va_get (D := (dC, dI)) (ci := 9) (v := .ref r1_6) (C := RX9) (T := TX9) (N := 9) hx hb hts zn_X11_depth_X9 hown hK hP 1 rfl rfl 6 (of_decide_eq_true rfl) (hts (.fieldLink RX11 122 "ShortEnough$Task" "numbers" "LShortEnough$Numbers;") zw_X11_depth_665) (fun _ h9 => h9) rfl dX11_depth_15 ?_
  refine va_get (D := (dC, dI)) (ci := 4) (v := .ref r2_6) (C := RX4) (T := TX4) (N := 10) hx hb hts zn_X11_depth_X4 hown hK hP 2 rfl rfl 6 (of_decide_eq_true rfl) (hts (.fieldLink RX11 217 "ShortEnough$Numbers" "lets" "[I") zw_X11_depth_667) (fun _ h9 => h9) rfl dX11_depth_18 ?_
  refine lv_iload_n hx hb dX11_depth_21 rfl (lv_at hl 1 rfl) ?_
  obtain ⟨h_6, hfn⟩ := zg_s hfn
  refine va_iald hx hb hK hP 3 0 rfl rfl h_6 dX11_depth_22 ?_
  refine lv_goto (tgt := 27) hx hb dX11_depth_23 (of_decide_eq_true rfl) ?_
  have ho := Option.some.inj hfn
  subst ho
  exact zri hx hb hr hK hP hD hS hQ rfl hlocks dX11_depth_27
theorem zn_X11_chosen_X11 : ∀ w ∈ wsX110, w ∈ wsX11_chosen := fun _ h => List.mem_cons_of_mem _ (List.mem_append_left _ (List.mem_append_left _ (List.mem_append_left _ (List.mem_append_right _ h))))
theorem zw_X11_chosen_669 : Cond.fieldLink RX11 27 "ShortEnough" "current" "LShortEnough$Task;" ∈ wsX11_chosen := List.mem_of_getElem? (i := 1) (by decide +kernel)
theorem zw_X11_chosen_670 : Cond.fieldLink RX11 34 "ShortEnough" "hand" "[I" ∈ wsX11_chosen := List.mem_of_getElem? (i := 2) (by decide +kernel)
set_option maxHeartbeats 4000000 in
set_option maxRecDepth 100000 in
theorem zf_X11_chosen (l : Launch) (dC : Nat → ClassId) (dI : Nat → Nat → Nat) (h0 : Nat) (p1 : Int32) (r0_0 : Nat) (v0_1 : Int32) (r0_2 : Nat) (r0_3 : Nat) (r0_4 : Nat) (r0_5 : Nat) (r0_6 : Nat) (r0_7 : Nat) (r0_8 : Nat) (r0_9 : Nat) (r0_10 : Nat) (r0_11 : Nat) (r0_12 : Nat) (r0_13 : Nat) (r0_14 : Nat) (v0_15 : Int32) (v1_0 : Int32) (r1_1 : Nat) (r1_2 : Nat) (r1_3 : Nat) (r1_4 : Nat) (v1_5 : Int32) (r1_6 : Nat) (r1_7 : Nat) (r1_8 : Nat) (v2_0 : Int32) (v2_1 : Int32) (r2_2 : Nat) (r2_3 : Nat) (r2_4 : Nat) (r2_5 : Nat) (r2_6 : Nat) (r2_7 : Nat) (r2_8 : Nat) (r2_9 : Nat) (v3_0 : Int32) (v3_1 : Int32) (v3_2 : Int32) (r3_3 : Nat) (r3_4 : Nat) (r3_5 : Nat) (k4 : Nat) (f4 : Nat → Int32) (k5 : Nat) (f5 : Nat → Int32) (o : Int32) (hfn : fn_X11_chosen p1 v2_0 v3_2 f4 f5 = some o) (sz : Nat) : zMi l yX11_chosen wsX11_chosen ({ frames := 1, cells := 0, slots := 0, locals := 23 }) (dC, dI) vwCl [.ref h0, .int p1] [zV11 h0 r0_0 v0_1 r0_2 r0_3 r0_4 r0_5 r0_6 r0_7 r0_8 r0_9 r0_10 r0_11 r0_12 r0_13 r0_14 v0_15, zV9 r0_4 v1_0 r1_1 r1_2 r1_3 r1_4 v1_5 r1_6 r1_7 r1_8, zV4 r1_6 v2_0 v2_1 r2_2 r2_3 r2_4 r2_5 r2_6 r2_7 r2_8 r2_9, zV2 r1_7 v3_0 v3_1 v3_2 r3_3 r3_4 r3_5, zVi r3_3 k4 14 f4, zVi r0_6 k5 14 f5] [(k4, .int), (k5, .int)] (fun r _ => r = o) [zV11 h0 r0_0 v0_1 r0_2 r0_3 r0_4 r0_5 r0_6 r0_7 r0_8 r0_9 r0_10 r0_11 r0_12 r0_13 r0_14 v0_15, zV9 r0_4 v1_0 r1_1 r1_2 r1_3 r1_4 v1_5 r1_6 r1_7 r1_8, zV4 r1_6 v2_0 v2_1 r2_2 r2_3 r2_4 r2_5 r2_6 r2_7 r2_8 r2_9, zV2 r1_7 v3_0 v3_1 v3_2 r3_3 r3_4 r3_5, zVi r3_3 k4 14 f4, zVi r0_6 k5 14 f5] [(k4, .int), (k5, .int)] sz := by
  refine zgoi (cc := cX11_chosen) (maxL := 2) (ret := (some .int)) (C0 := RX11) (lv0 := [(0, .ref h0), (1, .int p1)]) zpl_X11 rfl rfl rfl (Nat.le_of_ble_eq_true rfl) ?_
  intro p e s m below meth c A ls Q hx hb hr hts hown hlocks hml hP hK hD hA hS hl hQ
  unfold fn_X11_chosen at hfn
  refine lv_aload_n hx hb dX11_chosen_0 rfl (lv_at hl 0 rfl) ?_
  refine va_get (D := (dC, dI)) (ci := 11) (v := .ref r0_4) (C := RX11) (T := TX11) (N := 16) hx hb hts zn_X11_chosen_X11 hown hK hP 0 rfl rfl 4 (of_decide_eq_true rfl) (hts (.fieldLink RX11 27 "ShortEnough" "current" "LShortEnough$Task;") zw_X11_chosen_669) (fun _ h9 => h9) rfl dX11_chosen_1 ?_
  obtain ⟨o_1, hqo_1, hfn⟩ := zb_s hfn
  refine zcVb (ci := 9) (rest := []) (pc' := 7) (ws' := [zV11 h0 r0_0 v0_1 r0_2 r0_3 r0_4 r0_5 r0_6 r0_7 r0_8 r0_9 r0_10 r0_11 r0_12 r0_13 r0_14 v0_15, zV9 r0_4 v1_0 r1_1 r1_2 r1_3 r1_4 v1_5 r1_6 r1_7 r1_8, zV4 r1_6 v2_0 v2_1 r2_2 r2_3 r2_4 r2_5 r2_6 r2_7 r2_8 r2_9, zV2 r1_7 v3_0 v3_1 v3_2 r3_3 r3_4 r3_5, zVi r3_3 k4 14 f4, zVi r0_6 k5 14 f5]) hP hK hD hS hA ⟨hx, hb, hml, hown, hts⟩ (zf_X9_hasChoice l dC dI r0_4 v1_0 r1_1 r1_2 r1_3 r1_4 v1_5 r1_6 r1_7 r1_8 v2_0 v2_1 r2_2 r2_3 r2_4 r2_5 r2_6 r2_7 r2_8 r2_9 v3_0 v3_1 v3_2 r3_3 r3_4 r3_5 o_1 hqo_1 s.heap.size) (cwV 0 hts gX11_chosen_X9_hasChoice rfl rfl rfl zhd_X9_hasChoice ⟨Nat.le_of_ble_eq_true rfl, Nat.le_of_ble_eq_true rfl⟩) [1, 2, 3] rfl (of_decide_eq_true rfl) [] rfl rfl rfl rfl hl.1 rfl (Nat.le_of_ble_eq_true rfl) dX11_chosen_4 ⟨Nat.le_of_ble_eq_true rfl, Nat.le_of_ble_eq_true rfl⟩ [none, some 0, some 1, some 2] (of_decide_eq_true rfl) (of_decide_eq_true rfl) rfl rfl rfl (fun H locs hw_4n hP hD hS => ?_)
  refine lv_if_eq (tgt := 36) hx hb dX11_chosen_7 (of_decide_eq_true rfl) (fun c_5 => ?_) (fun c_5 => ?_)
  · have hfn := (if_pos c_5).symm.trans hfn
    refine lv_iconst (v := (-1)) hx hb dX11_chosen_36 zci_m1 ?_
    have ho := Option.some.inj hfn
    subst ho
    exact zri hx hb hr hK hP hD hS hQ rfl hlocks dX11_chosen_37
  have hfn := (if_neg c_5).symm.trans hfn
  refine lv_aload_n hx hb dX11_chosen_10 rfl (lv_at hl 0 rfl) ?_
  refine va_get (D := (dC, dI)) (ci := 11) (v := .ref r0_4) (C := RX11) (T := TX11) (N := 16) hx hb hts zn_X11_chosen_X11 hown hK hP 0 rfl rfl 4 (of_decide_eq_true rfl) (hts (.fieldLink RX11 27 "ShortEnough" "current" "LShortEnough$Task;") zw_X11_chosen_669) (fun _ h9 => h9) rfl dX11_chosen_11 ?_
  refine lv_iload_n hx hb dX11_chosen_14 rfl (lv_at hl 1 rfl) ?_
  obtain ⟨o_6, hqo_6, hfn⟩ := zb_s hfn
  refine zcVb (ci := 9) (rest := []) (pc' := 18) (ws' := [zV11 h0 r0_0 v0_1 r0_2 r0_3 r0_4 r0_5 r0_6 r0_7 r0_8 r0_9 r0_10 r0_11 r0_12 r0_13 r0_14 v0_15, zV9 r0_4 v1_0 r1_1 r1_2 r1_3 r1_4 v1_5 r1_6 r1_7 r1_8, zV4 r1_6 v2_0 v2_1 r2_2 r2_3 r2_4 r2_5 r2_6 r2_7 r2_8 r2_9, zV2 r1_7 v3_0 v3_1 v3_2 r3_3 r3_4 r3_5, zVi r3_3 k4 14 f4, zVi r0_6 k5 14 f5]) hP hK hD hS hA ⟨hx, hb, hml, hown, hts⟩ (zf_X9_hasNumber l dC dI r0_4 p1 v1_0 r1_1 r1_2 r1_3 r1_4 v1_5 r1_6 r1_7 r1_8 v2_0 v2_1 r2_2 r2_3 r2_4 r2_5 r2_6 r2_7 r2_8 r2_9 o_6 hqo_6 H.size) (cwV 1 hts gX11_chosen_X9_hasNumber rfl rfl rfl zhd_X9_hasNumber ⟨Nat.le_of_ble_eq_true rfl, Nat.le_of_ble_eq_true rfl⟩) [1, 2] rfl (of_decide_eq_true rfl) [] rfl rfl rfl rfl hl.1 rfl (Nat.le_of_ble_eq_true rfl) dX11_chosen_15 ⟨Nat.le_of_ble_eq_true rfl, Nat.le_of_ble_eq_true rfl⟩ [none, some 0, some 1] (of_decide_eq_true rfl) (of_decide_eq_true rfl) rfl rfl rfl (fun H locs hw_9n hP hD hS => ?_)
  refine lv_if_eq (tgt := 36) hx hb dX11_chosen_18 (of_decide_eq_true rfl) (fun c_10 => ?_) (fun c_10 => ?_)
  · have hfn := (if_pos c_10).symm.trans hfn
    refine lv_iconst (v := (-1)) hx hb dX11_chosen_36 zci_m1 ?_
    have ho := Option.some.inj hfn
    subst ho
    exact zri hx hb hr hK hP hD hS hQ rfl hlocks dX11_chosen_37
  have hfn := (if_neg c_10).symm.trans hfn
  refine lv_aload_n hx hb dX11_chosen_21 rfl (lv_at hl 0 rfl) ?_
  refine va_get (D := (dC, dI)) (ci := 11) (v := .ref r0_4) (C := RX11) (T := TX11) (N := 16) hx hb hts zn_X11_chosen_X11 hown hK hP 0 rfl rfl 4 (of_decide_eq_true rfl) (hts (.fieldLink RX11 27 "ShortEnough" "current" "LShortEnough$Task;") zw_X11_chosen_669) (fun _ h9 => h9) rfl dX11_chosen_22 ?_
  refine lv_aload_n hx hb dX11_chosen_25 rfl (lv_at hl 0 rfl) ?_
  refine va_get (D := (dC, dI)) (ci := 11) (v := .ref r0_6) (C := RX11) (T := TX11) (N := 16) hx hb hts zn_X11_chosen_X11 hown hK hP 0 rfl rfl 6 (of_decide_eq_true rfl) (hts (.fieldLink RX11 34 "ShortEnough" "hand" "[I") zw_X11_chosen_670) (fun _ h9 => h9) rfl dX11_chosen_26 ?_
  refine lv_iload_n hx hb dX11_chosen_29 rfl (lv_at hl 1 rfl) ?_
  obtain ⟨o_11, hqo_11, hfn⟩ := zb_s hfn
  refine zcVi (ci := 9) (rest := []) (pc' := 33) (ws' := [zV11 h0 r0_0 v0_1 r0_2 r0_3 r0_4 r0_5 r0_6 r0_7 r0_8 r0_9 r0_10 r0_11 r0_12 r0_13 r0_14 v0_15, zV9 r0_4 v1_0 r1_1 r1_2 r1_3 r1_4 v1_5 r1_6 r1_7 r1_8, zV4 r1_6 v2_0 v2_1 r2_2 r2_3 r2_4 r2_5 r2_6 r2_7 r2_8 r2_9, zV2 r1_7 v3_0 v3_1 v3_2 r3_3 r3_4 r3_5, zVi r3_3 k4 14 f4, zVi r0_6 k5 14 f5]) hP hK hD hS hA ⟨hx, hb, hml, hown, hts⟩ (zf_X9_formatOf l dC dI r0_4 r0_6 p1 v1_0 r1_1 r1_2 r1_3 r1_4 v1_5 r1_6 r1_7 r1_8 v2_0 v2_1 r2_2 r2_3 r2_4 r2_5 r2_6 r2_7 r2_8 r2_9 v3_0 v3_1 v3_2 r3_3 r3_4 r3_5 k4 f4 k5 f5 o_11 hqo_11 H.size) (cwV 2 hts gX11_chosen_X9_formatOf rfl rfl rfl zhd_X9_formatOf ⟨Nat.le_of_ble_eq_true rfl, Nat.le_of_ble_eq_true rfl⟩) [1, 2, 3, 4, 5] rfl (of_decide_eq_true rfl) [0, 1] rfl rfl rfl rfl hl.1 rfl (Nat.le_of_ble_eq_true rfl) dX11_chosen_30 ⟨Nat.le_of_ble_eq_true rfl, Nat.le_of_ble_eq_true rfl⟩ [none, some 0, some 1, some 2, some 3, some 4] (of_decide_eq_true rfl) (of_decide_eq_true rfl) rfl rfl rfl (fun H locs hP hD hS => ?_)
  refine lv_goto (tgt := 37) hx hb dX11_chosen_33 (of_decide_eq_true rfl) ?_
  have ho := Option.some.inj hfn
  subst ho
  exact zri hx hb hr hK hP hD hS hQ rfl hlocks dX11_chosen_37
theorem zn_X11_choose_X11 : ∀ w ∈ wsX110, w ∈ wsX11_choose := fun _ h => List.mem_cons_of_mem _ (List.mem_append_left _ (List.mem_append_left _ (List.mem_append_left _ (List.mem_append_right _ h))))
theorem zw_X11_choose_672 : Cond.fieldLink RX11 27 "ShortEnough" "current" "LShortEnough$Task;" ∈ wsX11_choose := List.mem_of_getElem? (i := 1) (by decide +kernel)
theorem zn_X11_choose_X9 : ∀ w ∈ wsX90, w ∈ wsX11_choose := fun _ h => List.mem_cons_of_mem _ (List.mem_append_left _ (List.mem_append_left _ (List.mem_append_right _ h)))
theorem zw_X11_choose_674 : Cond.fieldLink RX11 107 "ShortEnough$Task" "groups" "LShortEnough$Groups;" ∈ wsX11_choose := List.mem_of_getElem? (i := 2) (by decide +kernel)
theorem zn_X11_choose_X2 : ∀ w ∈ wsX20, w ∈ wsX11_choose := fun _ h => List.mem_cons_of_mem _ (List.mem_append_left _ (List.mem_append_right _ h))
theorem zw_X11_choose_676 : Cond.fieldLink RX11 185 "ShortEnough$Groups" "of" "[I" ∈ wsX11_choose := List.mem_of_getElem? (i := 3) (by decide +kernel)
theorem zw_X11_choose_677 : Cond.fieldLink RX11 34 "ShortEnough" "hand" "[I" ∈ wsX11_choose := List.mem_of_getElem? (i := 4) (by decide +kernel)
set_option maxHeartbeats 4000000 in
set_option maxRecDepth 100000 in
theorem zf_X11_choose (l : Launch) (dC : Nat → ClassId) (dI : Nat → Nat → Nat) (h0 : Nat) (p1 : Int32) (p2 : Int32) (r0_0 : Nat) (v0_1 : Int32) (r0_2 : Nat) (r0_3 : Nat) (r0_4 : Nat) (r0_5 : Nat) (r0_6 : Nat) (r0_7 : Nat) (r0_8 : Nat) (r0_9 : Nat) (r0_10 : Nat) (r0_11 : Nat) (r0_12 : Nat) (r0_13 : Nat) (r0_14 : Nat) (v0_15 : Int32) (v1_0 : Int32) (r1_1 : Nat) (r1_2 : Nat) (r1_3 : Nat) (r1_4 : Nat) (v1_5 : Int32) (r1_6 : Nat) (r1_7 : Nat) (r1_8 : Nat) (v2_0 : Int32) (v2_1 : Int32) (r2_2 : Nat) (r2_3 : Nat) (r2_4 : Nat) (r2_5 : Nat) (r2_6 : Nat) (r2_7 : Nat) (r2_8 : Nat) (r2_9 : Nat) (v3_0 : Int32) (v3_1 : Int32) (v3_2 : Int32) (r3_3 : Nat) (r3_4 : Nat) (r3_5 : Nat) (k4 : Nat) (f4 : Nat → Int32) (k5 : Nat) (f5 : Nat → Int32) (k6 : Nat) (f6 : Nat → Int32) (k7 : Nat) (f7 : Nat → Int32) (o : Int32 × (Nat → Int32) × (Nat → Int32)) (hfn : fn_X11_choose p1 p2 v1_0 v2_0 v3_0 v3_2 f4 f5 f6 f7 = some o) (sz : Nat) : zMi l yX11_choose wsX11_choose ({ frames := 2, cells := 0, slots := 0, locals := 42 }) (dC, dI) vwCl [.ref h0, .int p1, .int p2] [zV11 h0 r0_0 v0_1 r0_2 r0_3 r0_4 r0_5 r0_6 r0_7 r0_8 r0_9 r0_10 r0_11 r0_12 r0_13 r0_14 v0_15, zV9 r0_4 v1_0 r1_1 r1_2 r1_3 r1_4 v1_5 r1_6 r1_7 r1_8, zV4 r1_6 v2_0 v2_1 r2_2 r2_3 r2_4 r2_5 r2_6 r2_7 r2_8 r2_9, zV2 r1_7 v3_0 v3_1 v3_2 r3_3 r3_4 r3_5, zVi r0_2 k4 5 f4, zVi r3_3 k5 14 f5, zVi r3_4 k6 14 f6, zVi r0_6 k7 14 f7] [(k4, .int), (k5, .int), (k6, .int), (k7, .int)] (fun r _ => r = o.1) [zV11 h0 r0_0 v0_1 r0_2 r0_3 r0_4 r0_5 r0_6 r0_7 r0_8 r0_9 r0_10 r0_11 r0_12 r0_13 r0_14 v0_15, zV9 r0_4 v1_0 r1_1 r1_2 r1_3 r1_4 v1_5 r1_6 r1_7 r1_8, zV4 r1_6 v2_0 v2_1 r2_2 r2_3 r2_4 r2_5 r2_6 r2_7 r2_8 r2_9, zV2 r1_7 v3_0 v3_1 v3_2 r3_3 r3_4 r3_5, zVi r0_2 k4 5 o.2.1, zVi r3_3 k5 14 f5, zVi r3_4 k6 14 f6, zVi r0_6 k7 14 o.2.2] [(k4, .int), (k5, .int), (k6, .int), (k7, .int)] sz := by
  refine zgoi (cc := cX11_choose) (maxL := 5) (ret := (some .int)) (C0 := RX11) (lv0 := [(0, .ref h0), (1, .int p1), (2, .int p2)]) zpl_X11 rfl rfl rfl (Nat.le_of_ble_eq_true rfl) ?_
  intro p e s m below meth c A ls Q hx hb hr hts hown hlocks hml hP hK hD hA hS hl hQ
  unfold fn_X11_choose at hfn
  refine lv_aload_n hx hb dX11_choose_0 rfl (lv_at hl 0 rfl) ?_
  refine va_get (D := (dC, dI)) (ci := 11) (v := .ref r0_4) (C := RX11) (T := TX11) (N := 16) hx hb hts zn_X11_choose_X11 hown hK hP 0 rfl rfl 4 (of_decide_eq_true rfl) (hts (.fieldLink RX11 27 "ShortEnough" "current" "LShortEnough$Task;") zw_X11_choose_672) (fun _ h9 => h9) rfl dX11_choose_1 ?_
  obtain ⟨o_1, hqo_1, hfn⟩ := zb_s hfn
  refine zcVb (ci := 9) (rest := []) (pc' := 7) (ws' := [zV11 h0 r0_0 v0_1 r0_2 r0_3 r0_4 r0_5 r0_6 r0_7 r0_8 r0_9 r0_10 r0_11 r0_12 r0_13 r0_14 v0_15, zV9 r0_4 v1_0 r1_1 r1_2 r1_3 r1_4 v1_5 r1_6 r1_7 r1_8, zV4 r1_6 v2_0 v2_1 r2_2 r2_3 r2_4 r2_5 r2_6 r2_7 r2_8 r2_9, zV2 r1_7 v3_0 v3_1 v3_2 r3_3 r3_4 r3_5, zVi r0_2 k4 5 f4, zVi r3_3 k5 14 f5, zVi r3_4 k6 14 f6, zVi r0_6 k7 14 f7]) hP hK hD hS hA ⟨hx, hb, hml, hown, hts⟩ (zf_X9_hasChoice l dC dI r0_4 v1_0 r1_1 r1_2 r1_3 r1_4 v1_5 r1_6 r1_7 r1_8 v2_0 v2_1 r2_2 r2_3 r2_4 r2_5 r2_6 r2_7 r2_8 r2_9 v3_0 v3_1 v3_2 r3_3 r3_4 r3_5 o_1 hqo_1 s.heap.size) (cwV 0 hts gX11_choose_X9_hasChoice rfl rfl rfl zhd_X9_hasChoice ⟨Nat.le_of_ble_eq_true rfl, Nat.le_of_ble_eq_true rfl⟩) [1, 2, 3] rfl (of_decide_eq_true rfl) [] rfl rfl rfl rfl hl.1 rfl (Nat.le_of_ble_eq_true rfl) dX11_choose_4 ⟨Nat.le_of_ble_eq_true rfl, Nat.le_of_ble_eq_true rfl⟩ [none, some 0, some 1, some 2] (of_decide_eq_true rfl) (of_decide_eq_true rfl) rfl rfl rfl (fun H locs hw_4n hP hD hS => ?_)
  refine lv_if_eq (tgt := 32) hx hb dX11_choose_7 (of_decide_eq_true rfl) (fun c_5 => ?_) (fun c_5 => ?_)
  · have hfn := (if_pos c_5).symm.trans hfn
    refine lv_aload_n hx hb dX11_choose_32 rfl (lv_at hl 0 rfl) ?_
    refine lv_iconst (v := 2) hx hb dX11_choose_33 zci_2 ?_
    obtain ⟨o_6, hqo_6, hfn⟩ := zb_s hfn
    refine zcVi (ci := 11) (rest := []) (pc' := 37) (ws' := [zV11 h0 r0_0 v0_1 r0_2 r0_3 r0_4 r0_5 r0_6 r0_7 r0_8 r0_9 r0_10 r0_11 r0_12 r0_13 r0_14 v0_15, zV9 r0_4 v1_0 r1_1 r1_2 r1_3 r1_4 v1_5 r1_6 r1_7 r1_8, zV4 r1_6 v2_0 v2_1 r2_2 r2_3 r2_4 r2_5 r2_6 r2_7 r2_8 r2_9, zV2 r1_7 v3_0 v3_1 v3_2 r3_3 r3_4 r3_5, zVi r0_2 k4 5 o_6.2, zVi r3_3 k5 14 f5, zVi r3_4 k6 14 f6, zVi r0_6 k7 14 f7]) hP hK hD hS hA ⟨hx, hb, hml, hown, hts⟩ (zf_X11_refuse l dC dI h0 2 r0_0 v0_1 r0_2 r0_3 r0_4 r0_5 r0_6 r0_7 r0_8 r0_9 r0_10 r0_11 r0_12 r0_13 r0_14 v0_15 k4 f4 o_6 hqo_6 H.size) (cwV 1 hts gX11_choose_X11_refuse rfl rfl rfl zhd_X11_refuse ⟨Nat.le_of_ble_eq_true rfl, Nat.le_of_ble_eq_true rfl⟩) [0, 4] rfl (of_decide_eq_true rfl) [0] rfl rfl rfl rfl hl.1 rfl (Nat.le_of_ble_eq_true rfl) dX11_choose_34 ⟨Nat.le_of_ble_eq_true rfl, Nat.le_of_ble_eq_true rfl⟩ [some 0, none, none, none, some 1] (of_decide_eq_true rfl) (of_decide_eq_true rfl) rfl rfl rfl (fun H locs hP hD hS => ?_)
    have ho := Option.some.inj hfn
    subst ho
    exact zri hx hb hr hK hP hD hS hQ rfl hlocks dX11_choose_37
  have hfn := (if_neg c_5).symm.trans hfn
  refine lv_aload_n hx hb dX11_choose_10 rfl (lv_at hl 0 rfl) ?_
  refine va_get (D := (dC, dI)) (ci := 11) (v := .ref r0_4) (C := RX11) (T := TX11) (N := 16) hx hb hts zn_X11_choose_X11 hown hK hP 0 rfl rfl 4 (of_decide_eq_true rfl) (hts (.fieldLink RX11 27 "ShortEnough" "current" "LShortEnough$Task;") zw_X11_choose_672) (fun _ h9 => h9) rfl dX11_choose_11 ?_
  refine lv_iload_n hx hb dX11_choose_14 rfl (lv_at hl 2 rfl) ?_
  obtain ⟨o_10, hqo_10, hfn⟩ := zb_s hfn
  refine zcVb (ci := 9) (rest := []) (pc' := 18) (ws' := [zV11 h0 r0_0 v0_1 r0_2 r0_3 r0_4 r0_5 r0_6 r0_7 r0_8 r0_9 r0_10 r0_11 r0_12 r0_13 r0_14 v0_15, zV9 r0_4 v1_0 r1_1 r1_2 r1_3 r1_4 v1_5 r1_6 r1_7 r1_8, zV4 r1_6 v2_0 v2_1 r2_2 r2_3 r2_4 r2_5 r2_6 r2_7 r2_8 r2_9, zV2 r1_7 v3_0 v3_1 v3_2 r3_3 r3_4 r3_5, zVi r0_2 k4 5 f4, zVi r3_3 k5 14 f5, zVi r3_4 k6 14 f6, zVi r0_6 k7 14 f7]) hP hK hD hS hA ⟨hx, hb, hml, hown, hts⟩ (zf_X9_hasFormat l dC dI r0_4 p2 v1_0 r1_1 r1_2 r1_3 r1_4 v1_5 r1_6 r1_7 r1_8 o_10 hqo_10 H.size) (cwV 1 hts gX11_choose_X9_hasFormat rfl rfl rfl zhd_X9_hasFormat ⟨Nat.le_of_ble_eq_true rfl, Nat.le_of_ble_eq_true rfl⟩) [1] rfl (of_decide_eq_true rfl) [] rfl rfl rfl rfl hl.1 rfl (Nat.le_of_ble_eq_true rfl) dX11_choose_15 ⟨Nat.le_of_ble_eq_true rfl, Nat.le_of_ble_eq_true rfl⟩ [none, some 0] (of_decide_eq_true rfl) (of_decide_eq_true rfl) rfl rfl rfl (fun H locs hw_13n hP hD hS => ?_)
  refine lv_if_eq (tgt := 32) hx hb dX11_choose_18 (of_decide_eq_true rfl) (fun c_14 => ?_) (fun c_14 => ?_)
  · have hfn := (if_pos c_14).symm.trans hfn
    refine lv_aload_n hx hb dX11_choose_32 rfl (lv_at hl 0 rfl) ?_
    refine lv_iconst (v := 2) hx hb dX11_choose_33 zci_2 ?_
    obtain ⟨o_15, hqo_15, hfn⟩ := zb_s hfn
    refine zcVi (ci := 11) (rest := []) (pc' := 37) (ws' := [zV11 h0 r0_0 v0_1 r0_2 r0_3 r0_4 r0_5 r0_6 r0_7 r0_8 r0_9 r0_10 r0_11 r0_12 r0_13 r0_14 v0_15, zV9 r0_4 v1_0 r1_1 r1_2 r1_3 r1_4 v1_5 r1_6 r1_7 r1_8, zV4 r1_6 v2_0 v2_1 r2_2 r2_3 r2_4 r2_5 r2_6 r2_7 r2_8 r2_9, zV2 r1_7 v3_0 v3_1 v3_2 r3_3 r3_4 r3_5, zVi r0_2 k4 5 o_15.2, zVi r3_3 k5 14 f5, zVi r3_4 k6 14 f6, zVi r0_6 k7 14 f7]) hP hK hD hS hA ⟨hx, hb, hml, hown, hts⟩ (zf_X11_refuse l dC dI h0 2 r0_0 v0_1 r0_2 r0_3 r0_4 r0_5 r0_6 r0_7 r0_8 r0_9 r0_10 r0_11 r0_12 r0_13 r0_14 v0_15 k4 f4 o_15 hqo_15 H.size) (cwV 1 hts gX11_choose_X11_refuse rfl rfl rfl zhd_X11_refuse ⟨Nat.le_of_ble_eq_true rfl, Nat.le_of_ble_eq_true rfl⟩) [0, 4] rfl (of_decide_eq_true rfl) [0] rfl rfl rfl rfl hl.1 rfl (Nat.le_of_ble_eq_true rfl) dX11_choose_34 ⟨Nat.le_of_ble_eq_true rfl, Nat.le_of_ble_eq_true rfl⟩ [some 0, none, none, none, some 1] (of_decide_eq_true rfl) (of_decide_eq_true rfl) rfl rfl rfl (fun H locs hP hD hS => ?_)
    have ho := Option.some.inj hfn
    subst ho
    exact zri hx hb hr hK hP hD hS hQ rfl hlocks dX11_choose_37
  have hfn := (if_neg c_14).symm.trans hfn
  refine lv_aload_n hx hb dX11_choose_21 rfl (lv_at hl 0 rfl) ?_
  refine va_get (D := (dC, dI)) (ci := 11) (v := .ref r0_4) (C := RX11) (T := TX11) (N := 16) hx hb hts zn_X11_choose_X11 hown hK hP 0 rfl rfl 4 (of_decide_eq_true rfl) (hts (.fieldLink RX11 27 "ShortEnough" "current" "LShortEnough$Task;") zw_X11_choose_672) (fun _ h9 => h9) rfl dX11_choose_22 ?_
  refine lv_iload_n hx hb dX11_choose_25 rfl (lv_at hl 1 rfl) ?_
  obtain ⟨o_19, hqo_19, hfn⟩ := zb_s hfn
  refine zcVb (ci := 9) (rest := []) (pc' := 29) (ws' := [zV11 h0 r0_0 v0_1 r0_2 r0_3 r0_4 r0_5 r0_6 r0_7 r0_8 r0_9 r0_10 r0_11 r0_12 r0_13 r0_14 v0_15, zV9 r0_4 v1_0 r1_1 r1_2 r1_3 r1_4 v1_5 r1_6 r1_7 r1_8, zV4 r1_6 v2_0 v2_1 r2_2 r2_3 r2_4 r2_5 r2_6 r2_7 r2_8 r2_9, zV2 r1_7 v3_0 v3_1 v3_2 r3_3 r3_4 r3_5, zVi r0_2 k4 5 f4, zVi r3_3 k5 14 f5, zVi r3_4 k6 14 f6, zVi r0_6 k7 14 f7]) hP hK hD hS hA ⟨hx, hb, hml, hown, hts⟩ (zf_X9_isFree l dC dI r0_4 p1 v1_0 r1_1 r1_2 r1_3 r1_4 v1_5 r1_6 r1_7 r1_8 v2_0 v2_1 r2_2 r2_3 r2_4 r2_5 r2_6 r2_7 r2_8 r2_9 v3_0 v3_1 v3_2 r3_3 r3_4 r3_5 k5 f5 k6 f6 o_19 hqo_19 H.size) (cwV 1 hts gX11_choose_X9_isFree rfl rfl rfl zhd_X9_isFree ⟨Nat.le_of_ble_eq_true rfl, Nat.le_of_ble_eq_true rfl⟩) [1, 2, 3, 5, 6] rfl (of_decide_eq_true rfl) [1, 2] rfl rfl rfl rfl hl.1 rfl (Nat.le_of_ble_eq_true rfl) dX11_choose_26 ⟨Nat.le_of_ble_eq_true rfl, Nat.le_of_ble_eq_true rfl⟩ [none, some 0, some 1, some 2, none, some 3, some 4] (of_decide_eq_true rfl) (of_decide_eq_true rfl) rfl rfl rfl (fun H locs hw_22n hP hD hS => ?_)
  refine lv_if_ne (tgt := 38) hx hb dX11_choose_29 (of_decide_eq_true rfl) (fun c_23 => ?_) (fun c_23 => ?_)
  · have hfn := (if_neg c_23).symm.trans hfn
    refine lv_aload_n hx hb dX11_choose_38 rfl (lv_at hl 0 rfl) ?_
    refine va_get (D := (dC, dI)) (ci := 11) (v := .ref r0_4) (C := RX11) (T := TX11) (N := 16) hx hb hts zn_X11_choose_X11 hown hK hP 0 rfl rfl 4 (of_decide_eq_true rfl) (hts (.fieldLink RX11 27 "ShortEnough" "current" "LShortEnough$Task;") zw_X11_choose_672) (fun _ h9 => h9) rfl dX11_choose_39 ?_
    refine va_get (D := (dC, dI)) (ci := 9) (v := .ref r1_7) (C := RX9) (T := TX9) (N := 9) hx hb hts zn_X11_choose_X9 hown hK hP 1 rfl rfl 7 (of_decide_eq_true rfl) (hts (.fieldLink RX11 107 "ShortEnough$Task" "groups" "LShortEnough$Groups;") zw_X11_choose_674) (fun _ h9 => h9) rfl dX11_choose_42 ?_
    refine va_get (D := (dC, dI)) (ci := 2) (v := .ref r3_3) (C := RX2) (T := TX2) (N := 6) hx hb hts zn_X11_choose_X2 hown hK hP 3 rfl rfl 3 (of_decide_eq_true rfl) (hts (.fieldLink RX11 185 "ShortEnough$Groups" "of" "[I") zw_X11_choose_676) (fun _ h9 => h9) rfl dX11_choose_45 ?_
    refine lv_iload_n hx hb dX11_choose_48 rfl (lv_at hl 1 rfl) ?_
    obtain ⟨h_24, hfn⟩ := zg_s hfn
    refine va_iald hx hb hK hP 5 1 rfl rfl h_24 dX11_choose_49 ?_
    refine lv_istore_n (lv' := [(3, .int (f5 p1.toNatClampNeg)), (0, .ref h0), (1, .int p1), (2, .int p2)]) hx hb dX11_choose_50 rfl hl (of_decide_eq_true rfl) rfl (fun ls hl => ?_)
    refine lv_aload_n hx hb dX11_choose_51 rfl (lv_at hl 1 rfl) ?_
    refine va_get (D := (dC, dI)) (ci := 11) (v := .ref r0_6) (C := RX11) (T := TX11) (N := 16) hx hb hts zn_X11_choose_X11 hown hK hP 0 rfl rfl 6 (of_decide_eq_true rfl) (hts (.fieldLink RX11 34 "ShortEnough" "hand" "[I") zw_X11_choose_677) (fun _ h9 => h9) rfl dX11_choose_52 ?_
    refine lv_iload_n hx hb dX11_choose_55 rfl (lv_at hl 0 rfl) ?_
    obtain ⟨h_25, hfn⟩ := zg_s hfn
    refine va_iald hx hb hK hP 7 3 rfl rfl h_25 dX11_choose_56 ?_
    refine lv_istore (lv' := [(4, .int (f7 (f5 p1.toNatClampNeg).toNatClampNeg)), (3, .int (f5 p1.toNatClampNeg)), (0, .ref h0), (1, .int p1), (2, .int p2)]) hx hb dX11_choose_57 hl (of_decide_eq_true rfl) rfl (fun ls hl => ?_)
    refine lv_aload_n hx hb dX11_choose_59 rfl (lv_at hl 2 rfl) ?_
    refine va_get (D := (dC, dI)) (ci := 11) (v := .ref r0_6) (C := RX11) (T := TX11) (N := 16) hx hb hts zn_X11_choose_X11 hown hK hP 0 rfl rfl 6 (of_decide_eq_true rfl) (hts (.fieldLink RX11 34 "ShortEnough" "hand" "[I") zw_X11_choose_677) (fun _ h9 => h9) rfl dX11_choose_60 ?_
    refine lv_iload_n hx hb dX11_choose_63 rfl (lv_at hl 1 rfl) ?_
    refine lv_iload_n hx hb dX11_choose_64 rfl (lv_at hl 4 rfl) ?_
    refine va_iast hx hb hK hP hD hS 7 3 rfl rfl h_25 dX11_choose_65 (fun H locs hP hD hS => ?_)
    have hP : va_P (dC, dI) vwCl [zV11 h0 r0_0 v0_1 r0_2 r0_3 r0_4 r0_5 r0_6 r0_7 r0_8 r0_9 r0_10 r0_11 r0_12 r0_13 r0_14 v0_15, zV9 r0_4 v1_0 r1_1 r1_2 r1_3 r1_4 v1_5 r1_6 r1_7 r1_8, zV4 r1_6 v2_0 v2_1 r2_2 r2_3 r2_4 r2_5 r2_6 r2_7 r2_8 r2_9, zV2 r1_7 v3_0 v3_1 v3_2 r3_3 r3_4 r3_5, zVi r0_2 k4 5 f4, zVi r3_3 k5 14 f5, zVi r3_4 k6 14 f6, zVi r0_6 k7 14 (upd f7 (f5 p1.toNatClampNeg).toNatClampNeg p2)] H := hP
    have hD := zDW hD hP rfl
    refine lv_iload hx hb dX11_choose_66 (lv_at hl 0 rfl) ?_
    have ho := Option.some.inj hfn
    subst ho
    exact zri hx hb hr hK hP hD hS hQ rfl hlocks dX11_choose_68
  have hfn := (if_pos c_23).symm.trans hfn
  refine lv_aload_n hx hb dX11_choose_32 rfl (lv_at hl 0 rfl) ?_
  refine lv_iconst (v := 2) hx hb dX11_choose_33 zci_2 ?_
  obtain ⟨o_26, hqo_26, hfn⟩ := zb_s hfn
  refine zcVi (ci := 11) (rest := []) (pc' := 37) (ws' := [zV11 h0 r0_0 v0_1 r0_2 r0_3 r0_4 r0_5 r0_6 r0_7 r0_8 r0_9 r0_10 r0_11 r0_12 r0_13 r0_14 v0_15, zV9 r0_4 v1_0 r1_1 r1_2 r1_3 r1_4 v1_5 r1_6 r1_7 r1_8, zV4 r1_6 v2_0 v2_1 r2_2 r2_3 r2_4 r2_5 r2_6 r2_7 r2_8 r2_9, zV2 r1_7 v3_0 v3_1 v3_2 r3_3 r3_4 r3_5, zVi r0_2 k4 5 o_26.2, zVi r3_3 k5 14 f5, zVi r3_4 k6 14 f6, zVi r0_6 k7 14 f7]) hP hK hD hS hA ⟨hx, hb, hml, hown, hts⟩ (zf_X11_refuse l dC dI h0 2 r0_0 v0_1 r0_2 r0_3 r0_4 r0_5 r0_6 r0_7 r0_8 r0_9 r0_10 r0_11 r0_12 r0_13 r0_14 v0_15 k4 f4 o_26 hqo_26 H.size) (cwV 1 hts gX11_choose_X11_refuse rfl rfl rfl zhd_X11_refuse ⟨Nat.le_of_ble_eq_true rfl, Nat.le_of_ble_eq_true rfl⟩) [0, 4] rfl (of_decide_eq_true rfl) [0] rfl rfl rfl rfl hl.1 rfl (Nat.le_of_ble_eq_true rfl) dX11_choose_34 ⟨Nat.le_of_ble_eq_true rfl, Nat.le_of_ble_eq_true rfl⟩ [some 0, none, none, none, some 1] (of_decide_eq_true rfl) (of_decide_eq_true rfl) rfl rfl rfl (fun H locs hP hD hS => ?_)
  have ho := Option.some.inj hfn
  subst ho
  exact zri hx hb hr hK hP hD hS hQ rfl hlocks dX11_choose_37
theorem zn_X11_cost_X11 : ∀ w ∈ wsX110, w ∈ wsX11_cost := fun _ h => List.mem_cons_of_mem _ (List.mem_append_left _ (List.mem_append_left _ (List.mem_append_left _ (List.mem_append_right _ h))))
theorem zw_X11_cost_679 : Cond.fieldLink RX11 27 "ShortEnough" "current" "LShortEnough$Task;" ∈ wsX11_cost := List.mem_of_getElem? (i := 1) (by decide +kernel)
theorem zw_X11_cost_680 : Cond.fieldLink RX11 34 "ShortEnough" "hand" "[I" ∈ wsX11_cost := List.mem_of_getElem? (i := 2) (by decide +kernel)
set_option maxHeartbeats 4000000 in
set_option maxRecDepth 100000 in
theorem zf_X11_cost (l : Launch) (dC : Nat → ClassId) (dI : Nat → Nat → Nat) (h0 : Nat) (r0_0 : Nat) (v0_1 : Int32) (r0_2 : Nat) (r0_3 : Nat) (r0_4 : Nat) (r0_5 : Nat) (r0_6 : Nat) (r0_7 : Nat) (r0_8 : Nat) (r0_9 : Nat) (r0_10 : Nat) (r0_11 : Nat) (r0_12 : Nat) (r0_13 : Nat) (r0_14 : Nat) (v0_15 : Int32) (v1_0 : Int32) (r1_1 : Nat) (r1_2 : Nat) (r1_3 : Nat) (r1_4 : Nat) (v1_5 : Int32) (r1_6 : Nat) (r1_7 : Nat) (r1_8 : Nat) (v2_0 : Int32) (v2_1 : Int32) (r2_2 : Nat) (r2_3 : Nat) (r2_4 : Nat) (r2_5 : Nat) (r2_6 : Nat) (r2_7 : Nat) (r2_8 : Nat) (r2_9 : Nat) (v3_0 : Int32) (v3_1 : Int32) (v3_2 : Int32) (r3_3 : Nat) (r3_4 : Nat) (r3_5 : Nat) (k4 : Nat) (f4 : Nat → Int32) (k5 : Nat) (f5 : Nat → Int32) (k6 : Nat) (f6 : Nat → Int32) (k7 : Nat) (f7 : Nat → Int32) (o : Int32) (hfn : fn_X11_cost v1_0 v1_5 v2_0 v3_2 f4 f5 f6 f7 = some o) (sz : Nat) : zMi l yX11_cost wsX11_cost ({ frames := 3, cells := 0, slots := 0, locals := 72 }) (dC, dI) vwCl [.ref h0] [zV11 h0 r0_0 v0_1 r0_2 r0_3 r0_4 r0_5 r0_6 r0_7 r0_8 r0_9 r0_10 r0_11 r0_12 r0_13 r0_14 v0_15, zV9 r0_4 v1_0 r1_1 r1_2 r1_3 r1_4 v1_5 r1_6 r1_7 r1_8, zV4 r1_6 v2_0 v2_1 r2_2 r2_3 r2_4 r2_5 r2_6 r2_7 r2_8 r2_9, zV2 r1_7 v3_0 v3_1 v3_2 r3_3 r3_4 r3_5, zVi r2_8 k4 28 f4, zVi r3_3 k5 14 f5, zVi r0_6 k6 14 f6, zVi r1_4 k7 4 f7] [(k4, .int), (k5, .int), (k6, .int), (k7, .int)] (fun r _ => r = o) [zV11 h0 r0_0 v0_1 r0_2 r0_3 r0_4 r0_5 r0_6 r0_7 r0_8 r0_9 r0_10 r0_11 r0_12 r0_13 r0_14 v0_15, zV9 r0_4 v1_0 r1_1 r1_2 r1_3 r1_4 v1_5 r1_6 r1_7 r1_8, zV4 r1_6 v2_0 v2_1 r2_2 r2_3 r2_4 r2_5 r2_6 r2_7 r2_8 r2_9, zV2 r1_7 v3_0 v3_1 v3_2 r3_3 r3_4 r3_5, zVi r2_8 k4 28 f4, zVi r3_3 k5 14 f5, zVi r0_6 k6 14 f6, zVi r1_4 k7 4 f7] [(k4, .int), (k5, .int), (k6, .int), (k7, .int)] sz := by
  refine zgoi (cc := cX11_cost) (maxL := 1) (ret := (some .int)) (C0 := RX11) (lv0 := [(0, .ref h0)]) zpl_X11 rfl rfl rfl (Nat.le_of_ble_eq_true rfl) ?_
  intro p e s m below meth c A ls Q hx hb hr hts hown hlocks hml hP hK hD hA hS hl hQ
  unfold fn_X11_cost at hfn
  refine lv_aload_n hx hb dX11_cost_0 rfl (lv_at hl 0 rfl) ?_
  refine va_get (D := (dC, dI)) (ci := 11) (v := .ref r0_4) (C := RX11) (T := TX11) (N := 16) hx hb hts zn_X11_cost_X11 hown hK hP 0 rfl rfl 4 (of_decide_eq_true rfl) (hts (.fieldLink RX11 27 "ShortEnough" "current" "LShortEnough$Task;") zw_X11_cost_679) (fun _ h9 => h9) rfl dX11_cost_1 ?_
  obtain ⟨o_1, hqo_1, hfn⟩ := zb_s hfn
  refine zcVb (ci := 9) (rest := []) (pc' := 7) (ws' := [zV11 h0 r0_0 v0_1 r0_2 r0_3 r0_4 r0_5 r0_6 r0_7 r0_8 r0_9 r0_10 r0_11 r0_12 r0_13 r0_14 v0_15, zV9 r0_4 v1_0 r1_1 r1_2 r1_3 r1_4 v1_5 r1_6 r1_7 r1_8, zV4 r1_6 v2_0 v2_1 r2_2 r2_3 r2_4 r2_5 r2_6 r2_7 r2_8 r2_9, zV2 r1_7 v3_0 v3_1 v3_2 r3_3 r3_4 r3_5, zVi r2_8 k4 28 f4, zVi r3_3 k5 14 f5, zVi r0_6 k6 14 f6, zVi r1_4 k7 4 f7]) hP hK hD hS hA ⟨hx, hb, hml, hown, hts⟩ (zf_X9_hasChoice l dC dI r0_4 v1_0 r1_1 r1_2 r1_3 r1_4 v1_5 r1_6 r1_7 r1_8 v2_0 v2_1 r2_2 r2_3 r2_4 r2_5 r2_6 r2_7 r2_8 r2_9 v3_0 v3_1 v3_2 r3_3 r3_4 r3_5 o_1 hqo_1 s.heap.size) (cwV 0 hts gX11_cost_X9_hasChoice rfl rfl rfl zhd_X9_hasChoice ⟨Nat.le_of_ble_eq_true rfl, Nat.le_of_ble_eq_true rfl⟩) [1, 2, 3] rfl (of_decide_eq_true rfl) [] rfl rfl rfl rfl hl.1 rfl (Nat.le_of_ble_eq_true rfl) dX11_cost_4 ⟨Nat.le_of_ble_eq_true rfl, Nat.le_of_ble_eq_true rfl⟩ [none, some 0, some 1, some 2] (of_decide_eq_true rfl) (of_decide_eq_true rfl) rfl rfl rfl (fun H locs hw_4n hP hD hS => ?_)
  refine lv_if_eq (tgt := 24) hx hb dX11_cost_7 (of_decide_eq_true rfl) (fun c_5 => ?_) (fun c_5 => ?_)
  · have hfn := (if_pos c_5).symm.trans hfn
    refine lv_iconst (v := (-1)) hx hb dX11_cost_24 zci_m1 ?_
    have ho := Option.some.inj hfn
    subst ho
    exact zri hx hb hr hK hP hD hS hQ rfl hlocks dX11_cost_25
  have hfn := (if_neg c_5).symm.trans hfn
  refine lv_aload_n hx hb dX11_cost_10 rfl (lv_at hl 0 rfl) ?_
  refine va_get (D := (dC, dI)) (ci := 11) (v := .ref r0_4) (C := RX11) (T := TX11) (N := 16) hx hb hts zn_X11_cost_X11 hown hK hP 0 rfl rfl 4 (of_decide_eq_true rfl) (hts (.fieldLink RX11 27 "ShortEnough" "current" "LShortEnough$Task;") zw_X11_cost_679) (fun _ h9 => h9) rfl dX11_cost_11 ?_
  refine lv_aload_n hx hb dX11_cost_14 rfl (lv_at hl 0 rfl) ?_
  refine va_get (D := (dC, dI)) (ci := 11) (v := .ref r0_6) (C := RX11) (T := TX11) (N := 16) hx hb hts zn_X11_cost_X11 hown hK hP 0 rfl rfl 6 (of_decide_eq_true rfl) (hts (.fieldLink RX11 34 "ShortEnough" "hand" "[I") zw_X11_cost_680) (fun _ h9 => h9) rfl dX11_cost_15 ?_
  obtain ⟨o_6, hqo_6, hfn⟩ := zb_s hfn
  refine zcVi (ci := 9) (rest := []) (pc' := 21) (ws' := [zV11 h0 r0_0 v0_1 r0_2 r0_3 r0_4 r0_5 r0_6 r0_7 r0_8 r0_9 r0_10 r0_11 r0_12 r0_13 r0_14 v0_15, zV9 r0_4 v1_0 r1_1 r1_2 r1_3 r1_4 v1_5 r1_6 r1_7 r1_8, zV4 r1_6 v2_0 v2_1 r2_2 r2_3 r2_4 r2_5 r2_6 r2_7 r2_8 r2_9, zV2 r1_7 v3_0 v3_1 v3_2 r3_3 r3_4 r3_5, zVi r2_8 k4 28 f4, zVi r3_3 k5 14 f5, zVi r0_6 k6 14 f6, zVi r1_4 k7 4 f7]) hP hK hD hS hA ⟨hx, hb, hml, hown, hts⟩ (zf_X9_priceOf l dC dI r0_4 r0_6 v1_0 r1_1 r1_2 r1_3 r1_4 v1_5 r1_6 r1_7 r1_8 v2_0 v2_1 r2_2 r2_3 r2_4 r2_5 r2_6 r2_7 r2_8 r2_9 k4 f4 v3_0 v3_1 v3_2 r3_3 r3_4 r3_5 k5 f5 k6 f6 k7 f7 o_6 hqo_6 H.size) (cwV 1 hts gX11_cost_X9_priceOf rfl rfl rfl zhd_X9_priceOf ⟨Nat.le_of_ble_eq_true rfl, Nat.le_of_ble_eq_true rfl⟩) [1, 2, 4, 3, 5, 6, 7] rfl (of_decide_eq_true rfl) [0, 1, 2, 3] rfl rfl rfl rfl hl.1 rfl (Nat.le_of_ble_eq_true rfl) dX11_cost_18 ⟨Nat.le_of_ble_eq_true rfl, Nat.le_of_ble_eq_true rfl⟩ [none, some 0, some 1, some 3, some 2, some 4, some 5, some 6] (of_decide_eq_true rfl) (of_decide_eq_true rfl) rfl rfl rfl (fun H locs hP hD hS => ?_)
  refine lv_goto (tgt := 25) hx hb dX11_cost_21 (of_decide_eq_true rfl) ?_
  have ho := Option.some.inj hfn
  subst ho
  exact zri hx hb hr hK hP hD hS hQ rfl hlocks dX11_cost_25
theorem zn_X11_casts_X11 : ∀ w ∈ wsX110, w ∈ wsX11_casts := fun _ h => List.mem_cons_of_mem _ (List.mem_append_left _ (List.mem_append_left _ (List.mem_append_left _ (List.mem_append_right _ h))))
theorem zw_X11_casts_682 : Cond.fieldLink RX11 27 "ShortEnough" "current" "LShortEnough$Task;" ∈ wsX11_casts := List.mem_of_getElem? (i := 1) (by decide +kernel)
theorem zw_X11_casts_683 : Cond.fieldLink RX11 34 "ShortEnough" "hand" "[I" ∈ wsX11_casts := List.mem_of_getElem? (i := 2) (by decide +kernel)
set_option maxHeartbeats 4000000 in
set_option maxRecDepth 100000 in
theorem zf_X11_casts (l : Launch) (dC : Nat → ClassId) (dI : Nat → Nat → Nat) (h0 : Nat) (r0_0 : Nat) (v0_1 : Int32) (r0_2 : Nat) (r0_3 : Nat) (r0_4 : Nat) (r0_5 : Nat) (r0_6 : Nat) (r0_7 : Nat) (r0_8 : Nat) (r0_9 : Nat) (r0_10 : Nat) (r0_11 : Nat) (r0_12 : Nat) (r0_13 : Nat) (r0_14 : Nat) (v0_15 : Int32) (v1_0 : Int32) (r1_1 : Nat) (r1_2 : Nat) (r1_3 : Nat) (r1_4 : Nat) (v1_5 : Int32) (r1_6 : Nat) (r1_7 : Nat) (r1_8 : Nat) (v2_0 : Int32) (v2_1 : Int32) (r2_2 : Nat) (r2_3 : Nat) (r2_4 : Nat) (r2_5 : Nat) (r2_6 : Nat) (r2_7 : Nat) (r2_8 : Nat) (r2_9 : Nat) (v3_0 : Int32) (v3_1 : Int32) (v3_2 : Int32) (r3_3 : Nat) (r3_4 : Nat) (r3_5 : Nat) (k4 : Nat) (f4 : Nat → Int32) (k5 : Nat) (f5 : Nat → Int32) (k6 : Nat) (f6 : Nat → Int32) (o : Int32) (hfn : fn_X11_casts v2_0 v3_2 f4 f5 f6 = some o) (sz : Nat) : zMi l yX11_casts wsX11_casts ({ frames := 2, cells := 0, slots := 0, locals := 48 }) (dC, dI) vwCl [.ref h0] [zV11 h0 r0_0 v0_1 r0_2 r0_3 r0_4 r0_5 r0_6 r0_7 r0_8 r0_9 r0_10 r0_11 r0_12 r0_13 r0_14 v0_15, zV9 r0_4 v1_0 r1_1 r1_2 r1_3 r1_4 v1_5 r1_6 r1_7 r1_8, zV4 r1_6 v2_0 v2_1 r2_2 r2_3 r2_4 r2_5 r2_6 r2_7 r2_8 r2_9, zV2 r1_7 v3_0 v3_1 v3_2 r3_3 r3_4 r3_5, zVi r2_8 k4 28 f4, zVi r3_3 k5 14 f5, zVi r0_6 k6 14 f6] [(k4, .int), (k5, .int), (k6, .int)] (fun r _ => r = o) [zV11 h0 r0_0 v0_1 r0_2 r0_3 r0_4 r0_5 r0_6 r0_7 r0_8 r0_9 r0_10 r0_11 r0_12 r0_13 r0_14 v0_15, zV9 r0_4 v1_0 r1_1 r1_2 r1_3 r1_4 v1_5 r1_6 r1_7 r1_8, zV4 r1_6 v2_0 v2_1 r2_2 r2_3 r2_4 r2_5 r2_6 r2_7 r2_8 r2_9, zV2 r1_7 v3_0 v3_1 v3_2 r3_3 r3_4 r3_5, zVi r2_8 k4 28 f4, zVi r3_3 k5 14 f5, zVi r0_6 k6 14 f6] [(k4, .int), (k5, .int), (k6, .int)] sz := by
  refine zgoi (cc := cX11_casts) (maxL := 1) (ret := (some .int)) (C0 := RX11) (lv0 := [(0, .ref h0)]) zpl_X11 rfl rfl rfl (Nat.le_of_ble_eq_true rfl) ?_
  intro p e s m below meth c A ls Q hx hb hr hts hown hlocks hml hP hK hD hA hS hl hQ
  unfold fn_X11_casts at hfn
  refine lv_aload_n hx hb dX11_casts_0 rfl (lv_at hl 0 rfl) ?_
  refine va_get (D := (dC, dI)) (ci := 11) (v := .ref r0_4) (C := RX11) (T := TX11) (N := 16) hx hb hts zn_X11_casts_X11 hown hK hP 0 rfl rfl 4 (of_decide_eq_true rfl) (hts (.fieldLink RX11 27 "ShortEnough" "current" "LShortEnough$Task;") zw_X11_casts_682) (fun _ h9 => h9) rfl dX11_casts_1 ?_
  obtain ⟨o_1, hqo_1, hfn⟩ := zb_s hfn
  refine zcVb (ci := 9) (rest := []) (pc' := 7) (ws' := [zV11 h0 r0_0 v0_1 r0_2 r0_3 r0_4 r0_5 r0_6 r0_7 r0_8 r0_9 r0_10 r0_11 r0_12 r0_13 r0_14 v0_15, zV9 r0_4 v1_0 r1_1 r1_2 r1_3 r1_4 v1_5 r1_6 r1_7 r1_8, zV4 r1_6 v2_0 v2_1 r2_2 r2_3 r2_4 r2_5 r2_6 r2_7 r2_8 r2_9, zV2 r1_7 v3_0 v3_1 v3_2 r3_3 r3_4 r3_5, zVi r2_8 k4 28 f4, zVi r3_3 k5 14 f5, zVi r0_6 k6 14 f6]) hP hK hD hS hA ⟨hx, hb, hml, hown, hts⟩ (zf_X9_hasChoice l dC dI r0_4 v1_0 r1_1 r1_2 r1_3 r1_4 v1_5 r1_6 r1_7 r1_8 v2_0 v2_1 r2_2 r2_3 r2_4 r2_5 r2_6 r2_7 r2_8 r2_9 v3_0 v3_1 v3_2 r3_3 r3_4 r3_5 o_1 hqo_1 s.heap.size) (cwV 0 hts gX11_casts_X9_hasChoice rfl rfl rfl zhd_X9_hasChoice ⟨Nat.le_of_ble_eq_true rfl, Nat.le_of_ble_eq_true rfl⟩) [1, 2, 3] rfl (of_decide_eq_true rfl) [] rfl rfl rfl rfl hl.1 rfl (Nat.le_of_ble_eq_true rfl) dX11_casts_4 ⟨Nat.le_of_ble_eq_true rfl, Nat.le_of_ble_eq_true rfl⟩ [none, some 0, some 1, some 2] (of_decide_eq_true rfl) (of_decide_eq_true rfl) rfl rfl rfl (fun H locs hw_4n hP hD hS => ?_)
  refine lv_if_eq (tgt := 24) hx hb dX11_casts_7 (of_decide_eq_true rfl) (fun c_5 => ?_) (fun c_5 => ?_)
  · have hfn := (if_pos c_5).symm.trans hfn
    refine lv_iconst (v := (-1)) hx hb dX11_casts_24 zci_m1 ?_
    have ho := Option.some.inj hfn
    subst ho
    exact zri hx hb hr hK hP hD hS hQ rfl hlocks dX11_casts_25
  have hfn := (if_neg c_5).symm.trans hfn
  refine lv_aload_n hx hb dX11_casts_10 rfl (lv_at hl 0 rfl) ?_
  refine va_get (D := (dC, dI)) (ci := 11) (v := .ref r0_4) (C := RX11) (T := TX11) (N := 16) hx hb hts zn_X11_casts_X11 hown hK hP 0 rfl rfl 4 (of_decide_eq_true rfl) (hts (.fieldLink RX11 27 "ShortEnough" "current" "LShortEnough$Task;") zw_X11_casts_682) (fun _ h9 => h9) rfl dX11_casts_11 ?_
  refine lv_aload_n hx hb dX11_casts_14 rfl (lv_at hl 0 rfl) ?_
  refine va_get (D := (dC, dI)) (ci := 11) (v := .ref r0_6) (C := RX11) (T := TX11) (N := 16) hx hb hts zn_X11_casts_X11 hown hK hP 0 rfl rfl 6 (of_decide_eq_true rfl) (hts (.fieldLink RX11 34 "ShortEnough" "hand" "[I") zw_X11_casts_683) (fun _ h9 => h9) rfl dX11_casts_15 ?_
  obtain ⟨o_6, hqo_6, hfn⟩ := zb_s hfn
  refine zcVi (ci := 9) (rest := []) (pc' := 21) (ws' := [zV11 h0 r0_0 v0_1 r0_2 r0_3 r0_4 r0_5 r0_6 r0_7 r0_8 r0_9 r0_10 r0_11 r0_12 r0_13 r0_14 v0_15, zV9 r0_4 v1_0 r1_1 r1_2 r1_3 r1_4 v1_5 r1_6 r1_7 r1_8, zV4 r1_6 v2_0 v2_1 r2_2 r2_3 r2_4 r2_5 r2_6 r2_7 r2_8 r2_9, zV2 r1_7 v3_0 v3_1 v3_2 r3_3 r3_4 r3_5, zVi r2_8 k4 28 f4, zVi r3_3 k5 14 f5, zVi r0_6 k6 14 f6]) hP hK hD hS hA ⟨hx, hb, hml, hown, hts⟩ (zf_X9_castsOf l dC dI r0_4 r0_6 v1_0 r1_1 r1_2 r1_3 r1_4 v1_5 r1_6 r1_7 r1_8 v2_0 v2_1 r2_2 r2_3 r2_4 r2_5 r2_6 r2_7 r2_8 r2_9 k4 f4 v3_0 v3_1 v3_2 r3_3 r3_4 r3_5 k5 f5 k6 f6 o_6 hqo_6 H.size) (cwV 1 hts gX11_casts_X9_castsOf rfl rfl rfl zhd_X9_castsOf ⟨Nat.le_of_ble_eq_true rfl, Nat.le_of_ble_eq_true rfl⟩) [1, 2, 4, 3, 5, 6] rfl (of_decide_eq_true rfl) [0, 1, 2] rfl rfl rfl rfl hl.1 rfl (Nat.le_of_ble_eq_true rfl) dX11_casts_18 ⟨Nat.le_of_ble_eq_true rfl, Nat.le_of_ble_eq_true rfl⟩ [none, some 0, some 1, some 3, some 2, some 4, some 5] (of_decide_eq_true rfl) (of_decide_eq_true rfl) rfl rfl rfl (fun H locs hP hD hS => ?_)
  refine lv_goto (tgt := 25) hx hb dX11_casts_21 (of_decide_eq_true rfl) ?_
  have ho := Option.some.inj hfn
  subst ho
  exact zri hx hb hr hK hP hD hS hQ rfl hlocks dX11_casts_25
theorem zn_X11_fails_X11 : ∀ w ∈ wsX110, w ∈ wsX11_fails := fun _ h => List.mem_cons_of_mem _ (List.mem_append_left _ (List.mem_append_left _ (List.mem_append_left _ (List.mem_append_left _ (List.mem_append_left _ (List.mem_append_right _ h))))))
theorem zw_X11_fails_685 : Cond.fieldLink RX11 27 "ShortEnough" "current" "LShortEnough$Task;" ∈ wsX11_fails := List.mem_of_getElem? (i := 1) (by decide +kernel)
theorem zw_X11_fails_686 : Cond.fieldLink RX11 43 "ShortEnough" "reckoning" "LShortEnough$Reckoning;" ∈ wsX11_fails := List.mem_of_getElem? (i := 2) (by decide +kernel)
theorem zn_X11_fails_X9 : ∀ w ∈ wsX90, w ∈ wsX11_fails := fun _ h => List.mem_cons_of_mem _ (List.mem_append_left _ (List.mem_append_left _ (List.mem_append_left _ (List.mem_append_left _ (List.mem_append_right _ h)))))
theorem zw_X11_fails_688 : Cond.fieldLink RX11 200 "ShortEnough$Task" "ranges" "LShortEnough$Ranges;" ∈ wsX11_fails := List.mem_of_getElem? (i := 3) (by decide +kernel)
theorem zw_X11_fails_689 : Cond.fieldLink RX11 34 "ShortEnough" "hand" "[I" ∈ wsX11_fails := List.mem_of_getElem? (i := 4) (by decide +kernel)
theorem zn_X11_fails_X7 : ∀ w ∈ wsX70, w ∈ wsX11_fails := fun _ h => List.mem_cons_of_mem _ (List.mem_append_left _ (List.mem_append_left _ (List.mem_append_left _ (List.mem_append_right _ h))))
theorem zw_X11_fails_691 : Cond.fieldLink RX11 242 "ShortEnough$Reckoning" "failsAt" "I" ∈ wsX11_fails := List.mem_of_getElem? (i := 5) (by decide +kernel)
set_option maxHeartbeats 4000000 in
set_option maxRecDepth 100000 in
theorem zf_X11_fails (l : Launch) (dC : Nat → ClassId) (dI : Nat → Nat → Nat) (h0 : Nat) (r0_0 : Nat) (v0_1 : Int32) (r0_2 : Nat) (r0_3 : Nat) (r0_4 : Nat) (r0_5 : Nat) (r0_6 : Nat) (r0_7 : Nat) (r0_8 : Nat) (r0_9 : Nat) (r0_10 : Nat) (r0_11 : Nat) (r0_12 : Nat) (r0_13 : Nat) (r0_14 : Nat) (v0_15 : Int32) (v1_0 : Int32) (r1_1 : Nat) (r1_2 : Nat) (r1_3 : Nat) (r1_4 : Nat) (v1_5 : Int32) (r1_6 : Nat) (r1_7 : Nat) (r1_8 : Nat) (v2_0 : Int32) (v2_1 : Int32) (r2_2 : Nat) (r2_3 : Nat) (r2_4 : Nat) (r2_5 : Nat) (r2_6 : Nat) (r2_7 : Nat) (r2_8 : Nat) (r2_9 : Nat) (v3_0 : Int32) (v3_1 : Int32) (v3_2 : Int32) (r3_3 : Nat) (r3_4 : Nat) (r3_5 : Nat) (r4_0 : Nat) (v4_1 : Int32) (v4_2 : Int32) (k5 : Nat) (f5 : Nat → Int32) (k6 : Nat) (f6 : Nat → Int32) (k7 : Nat) (f7 : Nat → Int32) (k8 : Nat) (f8 : Nat → Int32) (k9 : Nat) (f9 : Nat → Int32) (k10 : Nat) (f10 : Nat → Int64) (k11 : Nat) (f11 : Nat → Int32) (r12_0 : Nat) (r12_1 : Nat) (r12_2 : Nat) (k13 : Nat) (f13 : Nat → Int64) (k14 : Nat) (f14 : Nat → Int64) (k15 : Nat) (f15 : Nat → Int32) (k16 : Nat) (f16 : Nat → Int32) (o : Int32 × Int32 × Int32 × (Nat → Int64)) (hfn : fn_X11_fails v1_0 v2_0 v3_2 v4_1 v4_2 f5 f6 f7 f8 f9 f10 f11 f13 f14 f15 f16 = some o) (sz : Nat) : zNi [(RX7, 90, yX11_divides, RX11)] l yX11_fails wsX11_fails ({ frames := 4, cells := 0, slots := 0, locals := 125 }) (dC, dI) vwCl [.ref h0] [zV11 h0 r0_0 v0_1 r0_2 r0_3 r0_4 r0_5 r0_6 r0_7 r0_8 r0_9 r0_10 r0_11 r0_12 r0_13 r0_14 v0_15, zV9 r0_4 v1_0 r1_1 r1_2 r1_3 r1_4 v1_5 r1_6 r1_7 r1_8, zV4 r1_6 v2_0 v2_1 r2_2 r2_3 r2_4 r2_5 r2_6 r2_7 r2_8 r2_9, zV2 r1_7 v3_0 v3_1 v3_2 r3_3 r3_4 r3_5, zV7 r0_8 r4_0 v4_1 v4_2, zVi r3_3 k5 14 f5, zVi r0_6 k6 14 f6, zVi r1_2 k7 4 f7, zVi r2_3 k8 14 f8, zVi r2_8 k9 28 f9, zVl r4_0 k10 14 f10, zVi r2_9 k11 28 f11, zV6 r1_8 r12_0 r12_1 r12_2, zVl r12_0 k13 14 f13, zVl r12_1 k14 14 f14, zVi r1_3 k15 4 f15, zVi r2_5 k16 14 f16] [(k5, .int), (k6, .int), (k7, .int), (k8, .int), (k9, .int), (k10, .long), (k11, .int), (k13, .long), (k14, .long), (k15, .int), (k16, .int)] (fun r _ => r = o.1) [zV11 h0 r0_0 v0_1 r0_2 r0_3 r0_4 r0_5 r0_6 r0_7 r0_8 r0_9 r0_10 r0_11 r0_12 r0_13 r0_14 v0_15, zV9 r0_4 v1_0 r1_1 r1_2 r1_3 r1_4 v1_5 r1_6 r1_7 r1_8, zV4 r1_6 v2_0 v2_1 r2_2 r2_3 r2_4 r2_5 r2_6 r2_7 r2_8 r2_9, zV2 r1_7 v3_0 v3_1 v3_2 r3_3 r3_4 r3_5, zV7 r0_8 r4_0 o.2.1 o.2.2.1, zVi r3_3 k5 14 f5, zVi r0_6 k6 14 f6, zVi r1_2 k7 4 f7, zVi r2_3 k8 14 f8, zVi r2_8 k9 28 f9, zVl r4_0 k10 14 o.2.2.2, zVi r2_9 k11 28 f11, zV6 r1_8 r12_0 r12_1 r12_2, zVl r12_0 k13 14 f13, zVl r12_1 k14 14 f14, zVi r1_3 k15 4 f15, zVi r2_5 k16 14 f16] [(k5, .int), (k6, .int), (k7, .int), (k8, .int), (k9, .int), (k10, .long), (k11, .int), (k13, .long), (k14, .long), (k15, .int), (k16, .int)] sz := by
  refine zgoNi (cc := cX11_fails) (maxL := 1) (ret := (some .int)) (C0 := RX11) (lv0 := [(0, .ref h0)]) zpl_X11 rfl rfl rfl (Nat.le_of_ble_eq_true rfl) ?_
  intro p e s m below meth c A ls Q hN hx hb hr hts hown hlocks hml hP hK hD hA hS hl hQ
  have hn0 : va_Nw (.methodLinkNest RX7 90 yX11_divides RX11) s := hN.1
  unfold fn_X11_fails at hfn
  refine lv_aload_n hx hb dX11_fails_0 rfl (lv_at hl 0 rfl) ?_
  refine va_get (D := (dC, dI)) (ci := 11) (v := .ref r0_4) (C := RX11) (T := TX11) (N := 16) hx hb hts zn_X11_fails_X11 hown hK hP 0 rfl rfl 4 (of_decide_eq_true rfl) (hts (.fieldLink RX11 27 "ShortEnough" "current" "LShortEnough$Task;") zw_X11_fails_685) (fun _ h9 => h9) rfl dX11_fails_1 ?_
  obtain ⟨o_1, hqo_1, hfn⟩ := zb_s hfn
  refine zcVb (ci := 9) (rest := []) (pc' := 7) (ws' := [zV11 h0 r0_0 v0_1 r0_2 r0_3 r0_4 r0_5 r0_6 r0_7 r0_8 r0_9 r0_10 r0_11 r0_12 r0_13 r0_14 v0_15, zV9 r0_4 v1_0 r1_1 r1_2 r1_3 r1_4 v1_5 r1_6 r1_7 r1_8, zV4 r1_6 v2_0 v2_1 r2_2 r2_3 r2_4 r2_5 r2_6 r2_7 r2_8 r2_9, zV2 r1_7 v3_0 v3_1 v3_2 r3_3 r3_4 r3_5, zV7 r0_8 r4_0 v4_1 v4_2, zVi r3_3 k5 14 f5, zVi r0_6 k6 14 f6, zVi r1_2 k7 4 f7, zVi r2_3 k8 14 f8, zVi r2_8 k9 28 f9, zVl r4_0 k10 14 f10, zVi r2_9 k11 28 f11, zV6 r1_8 r12_0 r12_1 r12_2, zVl r12_0 k13 14 f13, zVl r12_1 k14 14 f14, zVi r1_3 k15 4 f15, zVi r2_5 k16 14 f16]) hP hK hD hS hA ⟨hx, hb, hml, hown, hts⟩ (zf_X9_hasChoice l dC dI r0_4 v1_0 r1_1 r1_2 r1_3 r1_4 v1_5 r1_6 r1_7 r1_8 v2_0 v2_1 r2_2 r2_3 r2_4 r2_5 r2_6 r2_7 r2_8 r2_9 v3_0 v3_1 v3_2 r3_3 r3_4 r3_5 o_1 hqo_1 s.heap.size) (cwV 0 hts gX11_fails_X9_hasChoice rfl rfl rfl zhd_X9_hasChoice ⟨Nat.le_of_ble_eq_true rfl, Nat.le_of_ble_eq_true rfl⟩) [1, 2, 3] rfl (of_decide_eq_true rfl) [] rfl rfl rfl rfl hl.1 rfl (Nat.le_of_ble_eq_true rfl) dX11_fails_4 ⟨Nat.le_of_ble_eq_true rfl, Nat.le_of_ble_eq_true rfl⟩ [none, some 0, some 1, some 2] (of_decide_eq_true rfl) (of_decide_eq_true rfl) rfl rfl rfl (fun H locs hw_4n hP hD hS => ?_)
  refine lv_if_ne (tgt := 12) hx hb dX11_fails_7 (of_decide_eq_true rfl) (fun c_5 => ?_) (fun c_5 => ?_)
  · have hfn := (if_neg c_5).symm.trans hfn
    refine lv_aload_n hx hb dX11_fails_12 rfl (lv_at hl 0 rfl) ?_
    refine va_get (D := (dC, dI)) (ci := 11) (v := .ref r0_8) (C := RX11) (T := TX11) (N := 16) hx hb hts zn_X11_fails_X11 hown hK hP 0 rfl rfl 8 (of_decide_eq_true rfl) (hts (.fieldLink RX11 43 "ShortEnough" "reckoning" "LShortEnough$Reckoning;") zw_X11_fails_686) (fun _ h9 => h9) rfl dX11_fails_13 ?_
    refine lv_aload_n hx hb dX11_fails_16 rfl (lv_at hl 0 rfl) ?_
    refine va_get (D := (dC, dI)) (ci := 11) (v := .ref r0_4) (C := RX11) (T := TX11) (N := 16) hx hb hts zn_X11_fails_X11 hown hK hP 0 rfl rfl 4 (of_decide_eq_true rfl) (hts (.fieldLink RX11 27 "ShortEnough" "current" "LShortEnough$Task;") zw_X11_fails_685) (fun _ h9 => h9) rfl dX11_fails_17 ?_
    refine lv_aload_n hx hb dX11_fails_20 rfl (lv_at hl 0 rfl) ?_
    refine va_get (D := (dC, dI)) (ci := 11) (v := .ref r0_4) (C := RX11) (T := TX11) (N := 16) hx hb hts zn_X11_fails_X11 hown hK hP 0 rfl rfl 4 (of_decide_eq_true rfl) (hts (.fieldLink RX11 27 "ShortEnough" "current" "LShortEnough$Task;") zw_X11_fails_685) (fun _ h9 => h9) rfl dX11_fails_21 ?_
    refine va_get (D := (dC, dI)) (ci := 9) (v := .ref r1_8) (C := RX9) (T := TX9) (N := 9) hx hb hts zn_X11_fails_X9 hown hK hP 1 rfl rfl 8 (of_decide_eq_true rfl) (hts (.fieldLink RX11 200 "ShortEnough$Task" "ranges" "LShortEnough$Ranges;") zw_X11_fails_688) (fun _ h9 => h9) rfl dX11_fails_24 ?_
    refine lv_aload_n hx hb dX11_fails_27 rfl (lv_at hl 0 rfl) ?_
    refine va_get (D := (dC, dI)) (ci := 11) (v := .ref r0_6) (C := RX11) (T := TX11) (N := 16) hx hb hts zn_X11_fails_X11 hown hK hP 0 rfl rfl 6 (of_decide_eq_true rfl) (hts (.fieldLink RX11 34 "ShortEnough" "hand" "[I") zw_X11_fails_689) (fun _ h9 => h9) rfl dX11_fails_28 ?_
    obtain ⟨o_6, hqo_6, hfn⟩ := zb_s hfn
    refine zcNVb (ci := 7) (rest := []) (pc' := 34) (ws' := [zV11 h0 r0_0 v0_1 r0_2 r0_3 r0_4 r0_5 r0_6 r0_7 r0_8 r0_9 r0_10 r0_11 r0_12 r0_13 r0_14 v0_15, zV9 r0_4 v1_0 r1_1 r1_2 r1_3 r1_4 v1_5 r1_6 r1_7 r1_8, zV4 r1_6 v2_0 v2_1 r2_2 r2_3 r2_4 r2_5 r2_6 r2_7 r2_8 r2_9, zV2 r1_7 v3_0 v3_1 v3_2 r3_3 r3_4 r3_5, zV7 r0_8 r4_0 o_6.2.1 o_6.2.2.1, zVi r3_3 k5 14 f5, zVi r0_6 k6 14 f6, zVi r1_2 k7 4 f7, zVi r2_3 k8 14 f8, zVi r2_8 k9 28 f9, zVl r4_0 k10 14 o_6.2.2.2, zVi r2_9 k11 28 f11, zV6 r1_8 r12_0 r12_1 r12_2, zVl r12_0 k13 14 f13, zVl r12_1 k14 14 f14, zVi r1_3 k15 4 f15, zVi r2_5 k16 14 f16]) hP hK hD hS hA ⟨hx, hb, hml, hown, hts⟩ (zf_X7_reckon l dC dI r0_8 r0_4 r1_8 r0_6 r4_0 v4_1 v4_2 v1_0 r1_1 r1_2 r1_3 r1_4 v1_5 r1_6 r1_7 r1_8 v2_0 v2_1 r2_2 r2_3 r2_4 r2_5 r2_6 r2_7 r2_8 r2_9 v3_0 v3_1 v3_2 r3_3 r3_4 r3_5 k5 f5 k6 f6 k7 f7 k8 f8 k9 f9 k10 f10 k11 f11 r12_0 r12_1 r12_2 k13 f13 k14 f14 k15 f15 k16 f16 o_6 hqo_6 H.size) ⟨hn0, trivial⟩ (cwV 3 hts gX11_fails_X7_reckon rfl rfl rfl zhd_X7_reckon ⟨Nat.le_of_ble_eq_true rfl, Nat.le_of_ble_eq_true rfl⟩) [4, 1, 2, 3, 5, 6, 7, 8, 9, 10, 11, 12, 13, 14, 15, 16] rfl (of_decide_eq_true rfl) [0, 1, 2, 3, 4, 5, 6, 7, 8, 9, 10] rfl rfl rfl rfl hl.1 rfl (Nat.le_of_ble_eq_true rfl) dX11_fails_31 ⟨Nat.le_of_ble_eq_true rfl, Nat.le_of_ble_eq_true rfl⟩ [none, some 1, some 2, some 3, some 0, some 4, some 5, some 6, some 7, some 8, some 9, some 10, some 11, some 12, some 13, some 14, some 15] (of_decide_eq_true rfl) (of_decide_eq_true rfl) rfl rfl rfl (fun H locs hw_9n hP hD hS => ?_)
    refine lv_pop hx hb dX11_fails_34 rfl ?_
    refine lv_aload_n hx hb dX11_fails_35 rfl (lv_at hl 0 rfl) ?_
    refine va_get (D := (dC, dI)) (ci := 11) (v := .ref r0_8) (C := RX11) (T := TX11) (N := 16) hx hb hts zn_X11_fails_X11 hown hK hP 0 rfl rfl 8 (of_decide_eq_true rfl) (hts (.fieldLink RX11 43 "ShortEnough" "reckoning" "LShortEnough$Reckoning;") zw_X11_fails_686) (fun _ h9 => h9) rfl dX11_fails_36 ?_
    refine va_get (D := (dC, dI)) (ci := 7) (v := .int o_6.2.1) (C := RX7) (T := TX7) (N := 3) hx hb hts zn_X11_fails_X7 hown hK hP 4 rfl rfl 1 (of_decide_eq_true rfl) (hts (.fieldLink RX11 242 "ShortEnough$Reckoning" "failsAt" "I") zw_X11_fails_691) (fun _ h9 => h9) rfl dX11_fails_39 ?_
    have ho := Option.some.inj hfn
    subst ho
    exact zri hx hb hr hK hP hD hS hQ rfl hlocks dX11_fails_42
  have hfn := (if_pos c_5).symm.trans hfn
  refine lv_iconst (v := (-1)) hx hb dX11_fails_10 zci_m1 ?_
  have ho := Option.some.inj hfn
  subst ho
  exact zri hx hb hr hK hP hD hS hQ rfl hlocks dX11_fails_11
theorem zn_X11_why_X11 : ∀ w ∈ wsX110, w ∈ wsX11_why := fun _ h => List.mem_cons_of_mem _ (List.mem_append_left _ (List.mem_append_left _ (List.mem_append_left _ (List.mem_append_left _ (List.mem_append_left _ (List.mem_append_right _ h))))))
theorem zw_X11_why_693 : Cond.fieldLink RX11 27 "ShortEnough" "current" "LShortEnough$Task;" ∈ wsX11_why := List.mem_of_getElem? (i := 1) (by decide +kernel)
theorem zw_X11_why_694 : Cond.fieldLink RX11 43 "ShortEnough" "reckoning" "LShortEnough$Reckoning;" ∈ wsX11_why := List.mem_of_getElem? (i := 2) (by decide +kernel)
theorem zn_X11_why_X9 : ∀ w ∈ wsX90, w ∈ wsX11_why := fun _ h => List.mem_cons_of_mem _ (List.mem_append_left _ (List.mem_append_left _ (List.mem_append_left _ (List.mem_append_left _ (List.mem_append_right _ h)))))
theorem zw_X11_why_696 : Cond.fieldLink RX11 200 "ShortEnough$Task" "ranges" "LShortEnough$Ranges;" ∈ wsX11_why := List.mem_of_getElem? (i := 3) (by decide +kernel)
theorem zw_X11_why_697 : Cond.fieldLink RX11 34 "ShortEnough" "hand" "[I" ∈ wsX11_why := List.mem_of_getElem? (i := 4) (by decide +kernel)
theorem zn_X11_why_X7 : ∀ w ∈ wsX70, w ∈ wsX11_why := fun _ h => List.mem_cons_of_mem _ (List.mem_append_left _ (List.mem_append_left _ (List.mem_append_left _ (List.mem_append_right _ h))))
theorem zw_X11_why_699 : Cond.fieldLink RX11 245 "ShortEnough$Reckoning" "reason" "I" ∈ wsX11_why := List.mem_of_getElem? (i := 5) (by decide +kernel)
set_option maxHeartbeats 4000000 in
set_option maxRecDepth 100000 in
theorem zf_X11_why (l : Launch) (dC : Nat → ClassId) (dI : Nat → Nat → Nat) (h0 : Nat) (r0_0 : Nat) (v0_1 : Int32) (r0_2 : Nat) (r0_3 : Nat) (r0_4 : Nat) (r0_5 : Nat) (r0_6 : Nat) (r0_7 : Nat) (r0_8 : Nat) (r0_9 : Nat) (r0_10 : Nat) (r0_11 : Nat) (r0_12 : Nat) (r0_13 : Nat) (r0_14 : Nat) (v0_15 : Int32) (v1_0 : Int32) (r1_1 : Nat) (r1_2 : Nat) (r1_3 : Nat) (r1_4 : Nat) (v1_5 : Int32) (r1_6 : Nat) (r1_7 : Nat) (r1_8 : Nat) (v2_0 : Int32) (v2_1 : Int32) (r2_2 : Nat) (r2_3 : Nat) (r2_4 : Nat) (r2_5 : Nat) (r2_6 : Nat) (r2_7 : Nat) (r2_8 : Nat) (r2_9 : Nat) (v3_0 : Int32) (v3_1 : Int32) (v3_2 : Int32) (r3_3 : Nat) (r3_4 : Nat) (r3_5 : Nat) (r4_0 : Nat) (v4_1 : Int32) (v4_2 : Int32) (k5 : Nat) (f5 : Nat → Int32) (k6 : Nat) (f6 : Nat → Int32) (k7 : Nat) (f7 : Nat → Int32) (k8 : Nat) (f8 : Nat → Int32) (k9 : Nat) (f9 : Nat → Int32) (k10 : Nat) (f10 : Nat → Int64) (k11 : Nat) (f11 : Nat → Int32) (r12_0 : Nat) (r12_1 : Nat) (r12_2 : Nat) (k13 : Nat) (f13 : Nat → Int64) (k14 : Nat) (f14 : Nat → Int64) (k15 : Nat) (f15 : Nat → Int32) (k16 : Nat) (f16 : Nat → Int32) (o : Int32 × Int32 × Int32 × (Nat → Int64)) (hfn : fn_X11_why v1_0 v2_0 v3_2 v4_1 v4_2 f5 f6 f7 f8 f9 f10 f11 f13 f14 f15 f16 = some o) (sz : Nat) : zNi [(RX7, 90, yX11_divides, RX11)] l yX11_why wsX11_why ({ frames := 4, cells := 0, slots := 0, locals := 125 }) (dC, dI) vwCl [.ref h0] [zV11 h0 r0_0 v0_1 r0_2 r0_3 r0_4 r0_5 r0_6 r0_7 r0_8 r0_9 r0_10 r0_11 r0_12 r0_13 r0_14 v0_15, zV9 r0_4 v1_0 r1_1 r1_2 r1_3 r1_4 v1_5 r1_6 r1_7 r1_8, zV4 r1_6 v2_0 v2_1 r2_2 r2_3 r2_4 r2_5 r2_6 r2_7 r2_8 r2_9, zV2 r1_7 v3_0 v3_1 v3_2 r3_3 r3_4 r3_5, zV7 r0_8 r4_0 v4_1 v4_2, zVi r3_3 k5 14 f5, zVi r0_6 k6 14 f6, zVi r1_2 k7 4 f7, zVi r2_3 k8 14 f8, zVi r2_8 k9 28 f9, zVl r4_0 k10 14 f10, zVi r2_9 k11 28 f11, zV6 r1_8 r12_0 r12_1 r12_2, zVl r12_0 k13 14 f13, zVl r12_1 k14 14 f14, zVi r1_3 k15 4 f15, zVi r2_5 k16 14 f16] [(k5, .int), (k6, .int), (k7, .int), (k8, .int), (k9, .int), (k10, .long), (k11, .int), (k13, .long), (k14, .long), (k15, .int), (k16, .int)] (fun r _ => r = o.1) [zV11 h0 r0_0 v0_1 r0_2 r0_3 r0_4 r0_5 r0_6 r0_7 r0_8 r0_9 r0_10 r0_11 r0_12 r0_13 r0_14 v0_15, zV9 r0_4 v1_0 r1_1 r1_2 r1_3 r1_4 v1_5 r1_6 r1_7 r1_8, zV4 r1_6 v2_0 v2_1 r2_2 r2_3 r2_4 r2_5 r2_6 r2_7 r2_8 r2_9, zV2 r1_7 v3_0 v3_1 v3_2 r3_3 r3_4 r3_5, zV7 r0_8 r4_0 o.2.1 o.2.2.1, zVi r3_3 k5 14 f5, zVi r0_6 k6 14 f6, zVi r1_2 k7 4 f7, zVi r2_3 k8 14 f8, zVi r2_8 k9 28 f9, zVl r4_0 k10 14 o.2.2.2, zVi r2_9 k11 28 f11, zV6 r1_8 r12_0 r12_1 r12_2, zVl r12_0 k13 14 f13, zVl r12_1 k14 14 f14, zVi r1_3 k15 4 f15, zVi r2_5 k16 14 f16] [(k5, .int), (k6, .int), (k7, .int), (k8, .int), (k9, .int), (k10, .long), (k11, .int), (k13, .long), (k14, .long), (k15, .int), (k16, .int)] sz := by
  refine zgoNi (cc := cX11_why) (maxL := 1) (ret := (some .int)) (C0 := RX11) (lv0 := [(0, .ref h0)]) zpl_X11 rfl rfl rfl (Nat.le_of_ble_eq_true rfl) ?_
  intro p e s m below meth c A ls Q hN hx hb hr hts hown hlocks hml hP hK hD hA hS hl hQ
  have hn0 : va_Nw (.methodLinkNest RX7 90 yX11_divides RX11) s := hN.1
  unfold fn_X11_why at hfn
  refine lv_aload_n hx hb dX11_why_0 rfl (lv_at hl 0 rfl) ?_
  refine va_get (D := (dC, dI)) (ci := 11) (v := .ref r0_4) (C := RX11) (T := TX11) (N := 16) hx hb hts zn_X11_why_X11 hown hK hP 0 rfl rfl 4 (of_decide_eq_true rfl) (hts (.fieldLink RX11 27 "ShortEnough" "current" "LShortEnough$Task;") zw_X11_why_693) (fun _ h9 => h9) rfl dX11_why_1 ?_
  obtain ⟨o_1, hqo_1, hfn⟩ := zb_s hfn
  refine zcVb (ci := 9) (rest := []) (pc' := 7) (ws' := [zV11 h0 r0_0 v0_1 r0_2 r0_3 r0_4 r0_5 r0_6 r0_7 r0_8 r0_9 r0_10 r0_11 r0_12 r0_13 r0_14 v0_15, zV9 r0_4 v1_0 r1_1 r1_2 r1_3 r1_4 v1_5 r1_6 r1_7 r1_8, zV4 r1_6 v2_0 v2_1 r2_2 r2_3 r2_4 r2_5 r2_6 r2_7 r2_8 r2_9, zV2 r1_7 v3_0 v3_1 v3_2 r3_3 r3_4 r3_5, zV7 r0_8 r4_0 v4_1 v4_2, zVi r3_3 k5 14 f5, zVi r0_6 k6 14 f6, zVi r1_2 k7 4 f7, zVi r2_3 k8 14 f8, zVi r2_8 k9 28 f9, zVl r4_0 k10 14 f10, zVi r2_9 k11 28 f11, zV6 r1_8 r12_0 r12_1 r12_2, zVl r12_0 k13 14 f13, zVl r12_1 k14 14 f14, zVi r1_3 k15 4 f15, zVi r2_5 k16 14 f16]) hP hK hD hS hA ⟨hx, hb, hml, hown, hts⟩ (zf_X9_hasChoice l dC dI r0_4 v1_0 r1_1 r1_2 r1_3 r1_4 v1_5 r1_6 r1_7 r1_8 v2_0 v2_1 r2_2 r2_3 r2_4 r2_5 r2_6 r2_7 r2_8 r2_9 v3_0 v3_1 v3_2 r3_3 r3_4 r3_5 o_1 hqo_1 s.heap.size) (cwV 0 hts gX11_why_X9_hasChoice rfl rfl rfl zhd_X9_hasChoice ⟨Nat.le_of_ble_eq_true rfl, Nat.le_of_ble_eq_true rfl⟩) [1, 2, 3] rfl (of_decide_eq_true rfl) [] rfl rfl rfl rfl hl.1 rfl (Nat.le_of_ble_eq_true rfl) dX11_why_4 ⟨Nat.le_of_ble_eq_true rfl, Nat.le_of_ble_eq_true rfl⟩ [none, some 0, some 1, some 2] (of_decide_eq_true rfl) (of_decide_eq_true rfl) rfl rfl rfl (fun H locs hw_4n hP hD hS => ?_)
  refine lv_if_ne (tgt := 12) hx hb dX11_why_7 (of_decide_eq_true rfl) (fun c_5 => ?_) (fun c_5 => ?_)
  · have hfn := (if_neg c_5).symm.trans hfn
    refine lv_aload_n hx hb dX11_why_12 rfl (lv_at hl 0 rfl) ?_
    refine va_get (D := (dC, dI)) (ci := 11) (v := .ref r0_8) (C := RX11) (T := TX11) (N := 16) hx hb hts zn_X11_why_X11 hown hK hP 0 rfl rfl 8 (of_decide_eq_true rfl) (hts (.fieldLink RX11 43 "ShortEnough" "reckoning" "LShortEnough$Reckoning;") zw_X11_why_694) (fun _ h9 => h9) rfl dX11_why_13 ?_
    refine lv_aload_n hx hb dX11_why_16 rfl (lv_at hl 0 rfl) ?_
    refine va_get (D := (dC, dI)) (ci := 11) (v := .ref r0_4) (C := RX11) (T := TX11) (N := 16) hx hb hts zn_X11_why_X11 hown hK hP 0 rfl rfl 4 (of_decide_eq_true rfl) (hts (.fieldLink RX11 27 "ShortEnough" "current" "LShortEnough$Task;") zw_X11_why_693) (fun _ h9 => h9) rfl dX11_why_17 ?_
    refine lv_aload_n hx hb dX11_why_20 rfl (lv_at hl 0 rfl) ?_
    refine va_get (D := (dC, dI)) (ci := 11) (v := .ref r0_4) (C := RX11) (T := TX11) (N := 16) hx hb hts zn_X11_why_X11 hown hK hP 0 rfl rfl 4 (of_decide_eq_true rfl) (hts (.fieldLink RX11 27 "ShortEnough" "current" "LShortEnough$Task;") zw_X11_why_693) (fun _ h9 => h9) rfl dX11_why_21 ?_
    refine va_get (D := (dC, dI)) (ci := 9) (v := .ref r1_8) (C := RX9) (T := TX9) (N := 9) hx hb hts zn_X11_why_X9 hown hK hP 1 rfl rfl 8 (of_decide_eq_true rfl) (hts (.fieldLink RX11 200 "ShortEnough$Task" "ranges" "LShortEnough$Ranges;") zw_X11_why_696) (fun _ h9 => h9) rfl dX11_why_24 ?_
    refine lv_aload_n hx hb dX11_why_27 rfl (lv_at hl 0 rfl) ?_
    refine va_get (D := (dC, dI)) (ci := 11) (v := .ref r0_6) (C := RX11) (T := TX11) (N := 16) hx hb hts zn_X11_why_X11 hown hK hP 0 rfl rfl 6 (of_decide_eq_true rfl) (hts (.fieldLink RX11 34 "ShortEnough" "hand" "[I") zw_X11_why_697) (fun _ h9 => h9) rfl dX11_why_28 ?_
    obtain ⟨o_6, hqo_6, hfn⟩ := zb_s hfn
    refine zcNVb (ci := 7) (rest := []) (pc' := 34) (ws' := [zV11 h0 r0_0 v0_1 r0_2 r0_3 r0_4 r0_5 r0_6 r0_7 r0_8 r0_9 r0_10 r0_11 r0_12 r0_13 r0_14 v0_15, zV9 r0_4 v1_0 r1_1 r1_2 r1_3 r1_4 v1_5 r1_6 r1_7 r1_8, zV4 r1_6 v2_0 v2_1 r2_2 r2_3 r2_4 r2_5 r2_6 r2_7 r2_8 r2_9, zV2 r1_7 v3_0 v3_1 v3_2 r3_3 r3_4 r3_5, zV7 r0_8 r4_0 o_6.2.1 o_6.2.2.1, zVi r3_3 k5 14 f5, zVi r0_6 k6 14 f6, zVi r1_2 k7 4 f7, zVi r2_3 k8 14 f8, zVi r2_8 k9 28 f9, zVl r4_0 k10 14 o_6.2.2.2, zVi r2_9 k11 28 f11, zV6 r1_8 r12_0 r12_1 r12_2, zVl r12_0 k13 14 f13, zVl r12_1 k14 14 f14, zVi r1_3 k15 4 f15, zVi r2_5 k16 14 f16]) hP hK hD hS hA ⟨hx, hb, hml, hown, hts⟩ (zf_X7_reckon l dC dI r0_8 r0_4 r1_8 r0_6 r4_0 v4_1 v4_2 v1_0 r1_1 r1_2 r1_3 r1_4 v1_5 r1_6 r1_7 r1_8 v2_0 v2_1 r2_2 r2_3 r2_4 r2_5 r2_6 r2_7 r2_8 r2_9 v3_0 v3_1 v3_2 r3_3 r3_4 r3_5 k5 f5 k6 f6 k7 f7 k8 f8 k9 f9 k10 f10 k11 f11 r12_0 r12_1 r12_2 k13 f13 k14 f14 k15 f15 k16 f16 o_6 hqo_6 H.size) ⟨hn0, trivial⟩ (cwV 3 hts gX11_why_X7_reckon rfl rfl rfl zhd_X7_reckon ⟨Nat.le_of_ble_eq_true rfl, Nat.le_of_ble_eq_true rfl⟩) [4, 1, 2, 3, 5, 6, 7, 8, 9, 10, 11, 12, 13, 14, 15, 16] rfl (of_decide_eq_true rfl) [0, 1, 2, 3, 4, 5, 6, 7, 8, 9, 10] rfl rfl rfl rfl hl.1 rfl (Nat.le_of_ble_eq_true rfl) dX11_why_31 ⟨Nat.le_of_ble_eq_true rfl, Nat.le_of_ble_eq_true rfl⟩ [none, some 1, some 2, some 3, some 0, some 4, some 5, some 6, some 7, some 8, some 9, some 10, some 11, some 12, some 13, some 14, some 15] (of_decide_eq_true rfl) (of_decide_eq_true rfl) rfl rfl rfl (fun H locs hw_9n hP hD hS => ?_)
    refine lv_pop hx hb dX11_why_34 rfl ?_
    refine lv_aload_n hx hb dX11_why_35 rfl (lv_at hl 0 rfl) ?_
    refine va_get (D := (dC, dI)) (ci := 11) (v := .ref r0_8) (C := RX11) (T := TX11) (N := 16) hx hb hts zn_X11_why_X11 hown hK hP 0 rfl rfl 8 (of_decide_eq_true rfl) (hts (.fieldLink RX11 43 "ShortEnough" "reckoning" "LShortEnough$Reckoning;") zw_X11_why_694) (fun _ h9 => h9) rfl dX11_why_36 ?_
    refine va_get (D := (dC, dI)) (ci := 7) (v := .int o_6.2.2.1) (C := RX7) (T := TX7) (N := 3) hx hb hts zn_X11_why_X7 hown hK hP 4 rfl rfl 2 (of_decide_eq_true rfl) (hts (.fieldLink RX11 245 "ShortEnough$Reckoning" "reason" "I") zw_X11_why_699) (fun _ h9 => h9) rfl dX11_why_39 ?_
    have ho := Option.some.inj hfn
    subst ho
    exact zri hx hb hr hK hP hD hS hQ rfl hlocks dX11_why_42
  have hfn := (if_pos c_5).symm.trans hfn
  refine lv_iconst (v := (-1)) hx hb dX11_why_10 zci_m1 ?_
  have ho := Option.some.inj hfn
  subst ho
  exact zri hx hb hr hK hP hD hS hQ rfl hlocks dX11_why_11
theorem zn_X11_error_X11 : ∀ w ∈ wsX110, w ∈ wsX11_error := fun _ h => List.mem_cons_of_mem _ (List.mem_append_left _ (List.mem_append_left _ (List.mem_append_left _ (List.mem_append_left _ (List.mem_append_left _ (List.mem_append_right _ h))))))
theorem zw_X11_error_701 : Cond.fieldLink RX11 27 "ShortEnough" "current" "LShortEnough$Task;" ∈ wsX11_error := List.mem_of_getElem? (i := 1) (by decide +kernel)
theorem zw_X11_error_702 : Cond.constantLong RX11 194 (-1000000000000000) ∈ wsX11_error := List.mem_of_getElem? (i := 2) (by decide +kernel)
theorem zw_X11_error_703 : Cond.fieldLink RX11 43 "ShortEnough" "reckoning" "LShortEnough$Reckoning;" ∈ wsX11_error := List.mem_of_getElem? (i := 3) (by decide +kernel)
theorem zn_X11_error_X9 : ∀ w ∈ wsX90, w ∈ wsX11_error := fun _ h => List.mem_cons_of_mem _ (List.mem_append_left _ (List.mem_append_left _ (List.mem_append_left _ (List.mem_append_left _ (List.mem_append_right _ h)))))
theorem zw_X11_error_705 : Cond.fieldLink RX11 200 "ShortEnough$Task" "ranges" "LShortEnough$Ranges;" ∈ wsX11_error := List.mem_of_getElem? (i := 4) (by decide +kernel)
theorem zw_X11_error_706 : Cond.fieldLink RX11 34 "ShortEnough" "hand" "[I" ∈ wsX11_error := List.mem_of_getElem? (i := 5) (by decide +kernel)
theorem zn_X11_error_X7 : ∀ w ∈ wsX70, w ∈ wsX11_error := fun _ h => List.mem_cons_of_mem _ (List.mem_append_left _ (List.mem_append_left _ (List.mem_append_left _ (List.mem_append_right _ h))))
theorem zw_X11_error_708 : Cond.fieldLink RX11 248 "ShortEnough$Reckoning" "errors" "[J" ∈ wsX11_error := List.mem_of_getElem? (i := 7) (by decide +kernel)
theorem zw_X11_error_709 : Cond.fieldLink RX11 242 "ShortEnough$Reckoning" "failsAt" "I" ∈ wsX11_error := List.mem_of_getElem? (i := 6) (by decide +kernel)
set_option maxHeartbeats 4000000 in
set_option maxRecDepth 100000 in
theorem zf_X11_error (l : Launch) (dC : Nat → ClassId) (dI : Nat → Nat → Nat) (h0 : Nat) (p1 : Int32) (r0_0 : Nat) (v0_1 : Int32) (r0_2 : Nat) (r0_3 : Nat) (r0_4 : Nat) (r0_5 : Nat) (r0_6 : Nat) (r0_7 : Nat) (r0_8 : Nat) (r0_9 : Nat) (r0_10 : Nat) (r0_11 : Nat) (r0_12 : Nat) (r0_13 : Nat) (r0_14 : Nat) (v0_15 : Int32) (v1_0 : Int32) (r1_1 : Nat) (r1_2 : Nat) (r1_3 : Nat) (r1_4 : Nat) (v1_5 : Int32) (r1_6 : Nat) (r1_7 : Nat) (r1_8 : Nat) (v2_0 : Int32) (v2_1 : Int32) (r2_2 : Nat) (r2_3 : Nat) (r2_4 : Nat) (r2_5 : Nat) (r2_6 : Nat) (r2_7 : Nat) (r2_8 : Nat) (r2_9 : Nat) (v3_0 : Int32) (v3_1 : Int32) (v3_2 : Int32) (r3_3 : Nat) (r3_4 : Nat) (r3_5 : Nat) (r4_0 : Nat) (v4_1 : Int32) (v4_2 : Int32) (k5 : Nat) (f5 : Nat → Int32) (k6 : Nat) (f6 : Nat → Int32) (k7 : Nat) (f7 : Nat → Int32) (k8 : Nat) (f8 : Nat → Int32) (k9 : Nat) (f9 : Nat → Int32) (k10 : Nat) (f10 : Nat → Int64) (k11 : Nat) (f11 : Nat → Int32) (r12_0 : Nat) (r12_1 : Nat) (r12_2 : Nat) (k13 : Nat) (f13 : Nat → Int64) (k14 : Nat) (f14 : Nat → Int64) (k15 : Nat) (f15 : Nat → Int32) (k16 : Nat) (f16 : Nat → Int32) (o : Int64 × Int32 × Int32 × (Nat → Int64)) (hfn : fn_X11_error p1 v1_0 v2_0 v3_2 v4_1 v4_2 f5 f6 f7 f8 f9 f10 f11 f13 f14 f15 f16 = some o) (sz : Nat) : zNl [(RX7, 90, yX11_divides, RX11)] l yX11_error wsX11_error ({ frames := 4, cells := 0, slots := 0, locals := 125 }) (dC, dI) vwCl [.ref h0, .int p1] [zV11 h0 r0_0 v0_1 r0_2 r0_3 r0_4 r0_5 r0_6 r0_7 r0_8 r0_9 r0_10 r0_11 r0_12 r0_13 r0_14 v0_15, zV9 r0_4 v1_0 r1_1 r1_2 r1_3 r1_4 v1_5 r1_6 r1_7 r1_8, zV4 r1_6 v2_0 v2_1 r2_2 r2_3 r2_4 r2_5 r2_6 r2_7 r2_8 r2_9, zV2 r1_7 v3_0 v3_1 v3_2 r3_3 r3_4 r3_5, zV7 r0_8 r4_0 v4_1 v4_2, zVi r3_3 k5 14 f5, zVi r0_6 k6 14 f6, zVi r1_2 k7 4 f7, zVi r2_3 k8 14 f8, zVi r2_8 k9 28 f9, zVl r4_0 k10 14 f10, zVi r2_9 k11 28 f11, zV6 r1_8 r12_0 r12_1 r12_2, zVl r12_0 k13 14 f13, zVl r12_1 k14 14 f14, zVi r1_3 k15 4 f15, zVi r2_5 k16 14 f16] [(k5, .int), (k6, .int), (k7, .int), (k8, .int), (k9, .int), (k10, .long), (k11, .int), (k13, .long), (k14, .long), (k15, .int), (k16, .int)] (fun r _ => r = o.1) [zV11 h0 r0_0 v0_1 r0_2 r0_3 r0_4 r0_5 r0_6 r0_7 r0_8 r0_9 r0_10 r0_11 r0_12 r0_13 r0_14 v0_15, zV9 r0_4 v1_0 r1_1 r1_2 r1_3 r1_4 v1_5 r1_6 r1_7 r1_8, zV4 r1_6 v2_0 v2_1 r2_2 r2_3 r2_4 r2_5 r2_6 r2_7 r2_8 r2_9, zV2 r1_7 v3_0 v3_1 v3_2 r3_3 r3_4 r3_5, zV7 r0_8 r4_0 o.2.1 o.2.2.1, zVi r3_3 k5 14 f5, zVi r0_6 k6 14 f6, zVi r1_2 k7 4 f7, zVi r2_3 k8 14 f8, zVi r2_8 k9 28 f9, zVl r4_0 k10 14 o.2.2.2, zVi r2_9 k11 28 f11, zV6 r1_8 r12_0 r12_1 r12_2, zVl r12_0 k13 14 f13, zVl r12_1 k14 14 f14, zVi r1_3 k15 4 f15, zVi r2_5 k16 14 f16] [(k5, .int), (k6, .int), (k7, .int), (k8, .int), (k9, .int), (k10, .long), (k11, .int), (k13, .long), (k14, .long), (k15, .int), (k16, .int)] sz := by
  refine zgoNl (cc := cX11_error) (maxL := 3) (ret := (some .long)) (C0 := RX11) (lv0 := [(0, .ref h0), (1, .int p1)]) zpl_X11 rfl rfl rfl (Nat.le_of_ble_eq_true rfl) ?_
  intro p e s m below meth c A ls Q hN hx hb hr hts hown hlocks hml hP hK hD hA hS hl hQ
  have hn0 : va_Nw (.methodLinkNest RX7 90 yX11_divides RX11) s := hN.1
  unfold fn_X11_error at hfn
  refine lv_aload_n hx hb dX11_error_0 rfl (lv_at hl 0 rfl) ?_
  refine va_get (D := (dC, dI)) (ci := 11) (v := .ref r0_4) (C := RX11) (T := TX11) (N := 16) hx hb hts zn_X11_error_X11 hown hK hP 0 rfl rfl 4 (of_decide_eq_true rfl) (hts (.fieldLink RX11 27 "ShortEnough" "current" "LShortEnough$Task;") zw_X11_error_701) (fun _ h9 => h9) rfl dX11_error_1 ?_
  obtain ⟨o_1, hqo_1, hfn⟩ := zb_s hfn
  refine zcVb (ci := 9) (rest := []) (pc' := 7) (ws' := [zV11 h0 r0_0 v0_1 r0_2 r0_3 r0_4 r0_5 r0_6 r0_7 r0_8 r0_9 r0_10 r0_11 r0_12 r0_13 r0_14 v0_15, zV9 r0_4 v1_0 r1_1 r1_2 r1_3 r1_4 v1_5 r1_6 r1_7 r1_8, zV4 r1_6 v2_0 v2_1 r2_2 r2_3 r2_4 r2_5 r2_6 r2_7 r2_8 r2_9, zV2 r1_7 v3_0 v3_1 v3_2 r3_3 r3_4 r3_5, zV7 r0_8 r4_0 v4_1 v4_2, zVi r3_3 k5 14 f5, zVi r0_6 k6 14 f6, zVi r1_2 k7 4 f7, zVi r2_3 k8 14 f8, zVi r2_8 k9 28 f9, zVl r4_0 k10 14 f10, zVi r2_9 k11 28 f11, zV6 r1_8 r12_0 r12_1 r12_2, zVl r12_0 k13 14 f13, zVl r12_1 k14 14 f14, zVi r1_3 k15 4 f15, zVi r2_5 k16 14 f16]) hP hK hD hS hA ⟨hx, hb, hml, hown, hts⟩ (zf_X9_hasChoice l dC dI r0_4 v1_0 r1_1 r1_2 r1_3 r1_4 v1_5 r1_6 r1_7 r1_8 v2_0 v2_1 r2_2 r2_3 r2_4 r2_5 r2_6 r2_7 r2_8 r2_9 v3_0 v3_1 v3_2 r3_3 r3_4 r3_5 o_1 hqo_1 s.heap.size) (cwV 0 hts gX11_error_X9_hasChoice rfl rfl rfl zhd_X9_hasChoice ⟨Nat.le_of_ble_eq_true rfl, Nat.le_of_ble_eq_true rfl⟩) [1, 2, 3] rfl (of_decide_eq_true rfl) [] rfl rfl rfl rfl hl.1 rfl (Nat.le_of_ble_eq_true rfl) dX11_error_4 ⟨Nat.le_of_ble_eq_true rfl, Nat.le_of_ble_eq_true rfl⟩ [none, some 0, some 1, some 2] (of_decide_eq_true rfl) (of_decide_eq_true rfl) rfl rfl rfl (fun H locs hw_4n hP hD hS => ?_)
  refine lv_if_eq (tgt := 21) hx hb dX11_error_7 (of_decide_eq_true rfl) (fun c_5 => ?_) (fun c_5 => ?_)
  · have hfn := (if_pos c_5).symm.trans hfn
    refine lv_ldc2 (v := (-1000000000000000)) hx hb hown (hts (.constantLong RX11 194 (-1000000000000000)) zw_X11_error_702) dX11_error_21 ?_
    have ho := Option.some.inj hfn
    subst ho
    exact zrl hx hb hr hK hP hD hS hQ rfl hlocks dX11_error_24
  have hfn := (if_neg c_5).symm.trans hfn
  refine lv_aload_n hx hb dX11_error_10 rfl (lv_at hl 0 rfl) ?_
  refine va_get (D := (dC, dI)) (ci := 11) (v := .ref r0_4) (C := RX11) (T := TX11) (N := 16) hx hb hts zn_X11_error_X11 hown hK hP 0 rfl rfl 4 (of_decide_eq_true rfl) (hts (.fieldLink RX11 27 "ShortEnough" "current" "LShortEnough$Task;") zw_X11_error_701) (fun _ h9 => h9) rfl dX11_error_11 ?_
  refine lv_iload_n hx hb dX11_error_14 rfl (lv_at hl 1 rfl) ?_
  obtain ⟨o_6, hqo_6, hfn⟩ := zb_s hfn
  refine zcVb (ci := 9) (rest := []) (pc' := 18) (ws' := [zV11 h0 r0_0 v0_1 r0_2 r0_3 r0_4 r0_5 r0_6 r0_7 r0_8 r0_9 r0_10 r0_11 r0_12 r0_13 r0_14 v0_15, zV9 r0_4 v1_0 r1_1 r1_2 r1_3 r1_4 v1_5 r1_6 r1_7 r1_8, zV4 r1_6 v2_0 v2_1 r2_2 r2_3 r2_4 r2_5 r2_6 r2_7 r2_8 r2_9, zV2 r1_7 v3_0 v3_1 v3_2 r3_3 r3_4 r3_5, zV7 r0_8 r4_0 v4_1 v4_2, zVi r3_3 k5 14 f5, zVi r0_6 k6 14 f6, zVi r1_2 k7 4 f7, zVi r2_3 k8 14 f8, zVi r2_8 k9 28 f9, zVl r4_0 k10 14 f10, zVi r2_9 k11 28 f11, zV6 r1_8 r12_0 r12_1 r12_2, zVl r12_0 k13 14 f13, zVl r12_1 k14 14 f14, zVi r1_3 k15 4 f15, zVi r2_5 k16 14 f16]) hP hK hD hS hA ⟨hx, hb, hml, hown, hts⟩ (zf_X9_hasNumber l dC dI r0_4 p1 v1_0 r1_1 r1_2 r1_3 r1_4 v1_5 r1_6 r1_7 r1_8 v2_0 v2_1 r2_2 r2_3 r2_4 r2_5 r2_6 r2_7 r2_8 r2_9 o_6 hqo_6 H.size) (cwV 1 hts gX11_error_X9_hasNumber rfl rfl rfl zhd_X9_hasNumber ⟨Nat.le_of_ble_eq_true rfl, Nat.le_of_ble_eq_true rfl⟩) [1, 2] rfl (of_decide_eq_true rfl) [] rfl rfl rfl rfl hl.1 rfl (Nat.le_of_ble_eq_true rfl) dX11_error_15 ⟨Nat.le_of_ble_eq_true rfl, Nat.le_of_ble_eq_true rfl⟩ [none, some 0, some 1] (of_decide_eq_true rfl) (of_decide_eq_true rfl) rfl rfl rfl (fun H locs hw_9n hP hD hS => ?_)
  refine lv_if_ne (tgt := 25) hx hb dX11_error_18 (of_decide_eq_true rfl) (fun c_10 => ?_) (fun c_10 => ?_)
  · have hfn := (if_neg c_10).symm.trans hfn
    refine lv_aload_n hx hb dX11_error_25 rfl (lv_at hl 0 rfl) ?_
    refine va_get (D := (dC, dI)) (ci := 11) (v := .ref r0_8) (C := RX11) (T := TX11) (N := 16) hx hb hts zn_X11_error_X11 hown hK hP 0 rfl rfl 8 (of_decide_eq_true rfl) (hts (.fieldLink RX11 43 "ShortEnough" "reckoning" "LShortEnough$Reckoning;") zw_X11_error_703) (fun _ h9 => h9) rfl dX11_error_26 ?_
    refine lv_aload_n hx hb dX11_error_29 rfl (lv_at hl 0 rfl) ?_
    refine va_get (D := (dC, dI)) (ci := 11) (v := .ref r0_4) (C := RX11) (T := TX11) (N := 16) hx hb hts zn_X11_error_X11 hown hK hP 0 rfl rfl 4 (of_decide_eq_true rfl) (hts (.fieldLink RX11 27 "ShortEnough" "current" "LShortEnough$Task;") zw_X11_error_701) (fun _ h9 => h9) rfl dX11_error_30 ?_
    refine lv_aload_n hx hb dX11_error_33 rfl (lv_at hl 0 rfl) ?_
    refine va_get (D := (dC, dI)) (ci := 11) (v := .ref r0_4) (C := RX11) (T := TX11) (N := 16) hx hb hts zn_X11_error_X11 hown hK hP 0 rfl rfl 4 (of_decide_eq_true rfl) (hts (.fieldLink RX11 27 "ShortEnough" "current" "LShortEnough$Task;") zw_X11_error_701) (fun _ h9 => h9) rfl dX11_error_34 ?_
    refine va_get (D := (dC, dI)) (ci := 9) (v := .ref r1_8) (C := RX9) (T := TX9) (N := 9) hx hb hts zn_X11_error_X9 hown hK hP 1 rfl rfl 8 (of_decide_eq_true rfl) (hts (.fieldLink RX11 200 "ShortEnough$Task" "ranges" "LShortEnough$Ranges;") zw_X11_error_705) (fun _ h9 => h9) rfl dX11_error_37 ?_
    refine lv_aload_n hx hb dX11_error_40 rfl (lv_at hl 0 rfl) ?_
    refine va_get (D := (dC, dI)) (ci := 11) (v := .ref r0_6) (C := RX11) (T := TX11) (N := 16) hx hb hts zn_X11_error_X11 hown hK hP 0 rfl rfl 6 (of_decide_eq_true rfl) (hts (.fieldLink RX11 34 "ShortEnough" "hand" "[I") zw_X11_error_706) (fun _ h9 => h9) rfl dX11_error_41 ?_
    obtain ⟨o_11, hqo_11, hfn⟩ := zb_s hfn
    refine zcNVb (ci := 7) (rest := []) (pc' := 47) (ws' := [zV11 h0 r0_0 v0_1 r0_2 r0_3 r0_4 r0_5 r0_6 r0_7 r0_8 r0_9 r0_10 r0_11 r0_12 r0_13 r0_14 v0_15, zV9 r0_4 v1_0 r1_1 r1_2 r1_3 r1_4 v1_5 r1_6 r1_7 r1_8, zV4 r1_6 v2_0 v2_1 r2_2 r2_3 r2_4 r2_5 r2_6 r2_7 r2_8 r2_9, zV2 r1_7 v3_0 v3_1 v3_2 r3_3 r3_4 r3_5, zV7 r0_8 r4_0 o_11.2.1 o_11.2.2.1, zVi r3_3 k5 14 f5, zVi r0_6 k6 14 f6, zVi r1_2 k7 4 f7, zVi r2_3 k8 14 f8, zVi r2_8 k9 28 f9, zVl r4_0 k10 14 o_11.2.2.2, zVi r2_9 k11 28 f11, zV6 r1_8 r12_0 r12_1 r12_2, zVl r12_0 k13 14 f13, zVl r12_1 k14 14 f14, zVi r1_3 k15 4 f15, zVi r2_5 k16 14 f16]) hP hK hD hS hA ⟨hx, hb, hml, hown, hts⟩ (zf_X7_reckon l dC dI r0_8 r0_4 r1_8 r0_6 r4_0 v4_1 v4_2 v1_0 r1_1 r1_2 r1_3 r1_4 v1_5 r1_6 r1_7 r1_8 v2_0 v2_1 r2_2 r2_3 r2_4 r2_5 r2_6 r2_7 r2_8 r2_9 v3_0 v3_1 v3_2 r3_3 r3_4 r3_5 k5 f5 k6 f6 k7 f7 k8 f8 k9 f9 k10 f10 k11 f11 r12_0 r12_1 r12_2 k13 f13 k14 f14 k15 f15 k16 f16 o_11 hqo_11 H.size) ⟨hn0, trivial⟩ (cwV 3 hts gX11_error_X7_reckon rfl rfl rfl zhd_X7_reckon ⟨Nat.le_of_ble_eq_true rfl, Nat.le_of_ble_eq_true rfl⟩) [4, 1, 2, 3, 5, 6, 7, 8, 9, 10, 11, 12, 13, 14, 15, 16] rfl (of_decide_eq_true rfl) [0, 1, 2, 3, 4, 5, 6, 7, 8, 9, 10] rfl rfl rfl rfl hl.1 rfl (Nat.le_of_ble_eq_true rfl) dX11_error_44 ⟨Nat.le_of_ble_eq_true rfl, Nat.le_of_ble_eq_true rfl⟩ [none, some 1, some 2, some 3, some 0, some 4, some 5, some 6, some 7, some 8, some 9, some 10, some 11, some 12, some 13, some 14, some 15] (of_decide_eq_true rfl) (of_decide_eq_true rfl) rfl rfl rfl (fun H locs hw_14n hP hD hS => ?_)
    refine lv_istore_n (lv' := [(2, .int o_11.1), (0, .ref h0), (1, .int p1)]) hx hb dX11_error_47 rfl hl (of_decide_eq_true rfl) rfl (fun ls hl => ?_)
    refine lv_iload_n hx hb dX11_error_48 rfl (lv_at hl 0 rfl) ?_
    refine lv_if_ne (tgt := 63) hx hb dX11_error_49 (of_decide_eq_true rfl) (fun c_15 => ?_) (fun c_15 => ?_)
    · have hfn := (if_neg c_15).symm.trans hfn
      refine lv_aload_n hx hb dX11_error_63 rfl (lv_at hl 1 rfl) ?_
      refine va_get (D := (dC, dI)) (ci := 11) (v := .ref r0_8) (C := RX11) (T := TX11) (N := 16) hx hb hts zn_X11_error_X11 hown hK hP 0 rfl rfl 8 (of_decide_eq_true rfl) (hts (.fieldLink RX11 43 "ShortEnough" "reckoning" "LShortEnough$Reckoning;") zw_X11_error_703) (fun _ h9 => h9) rfl dX11_error_64 ?_
      refine va_get (D := (dC, dI)) (ci := 7) (v := .ref r4_0) (C := RX7) (T := TX7) (N := 3) hx hb hts zn_X11_error_X7 hown hK hP 4 rfl rfl 0 (of_decide_eq_true rfl) (hts (.fieldLink RX11 248 "ShortEnough$Reckoning" "errors" "[J") zw_X11_error_708) (fun _ h9 => h9) rfl dX11_error_67 ?_
      refine lv_iload_n hx hb dX11_error_70 rfl (lv_at hl 2 rfl) ?_
      obtain ⟨h_16, hfn⟩ := zg_s hfn
      refine va_lald hx hb hK hP 10 5 rfl rfl h_16 dX11_error_71 ?_
      refine lv_goto (tgt := 78) hx hb dX11_error_72 (of_decide_eq_true rfl) ?_
      have ho := Option.some.inj hfn
      subst ho
      exact zrl hx hb hr hK hP hD hS hQ rfl hlocks dX11_error_78
    have hfn := (if_pos c_15).symm.trans hfn
    refine lv_iload_n hx hb dX11_error_52 rfl (lv_at hl 2 rfl) ?_
    refine lv_aload_n hx hb dX11_error_53 rfl (lv_at hl 1 rfl) ?_
    refine va_get (D := (dC, dI)) (ci := 11) (v := .ref r0_8) (C := RX11) (T := TX11) (N := 16) hx hb hts zn_X11_error_X11 hown hK hP 0 rfl rfl 8 (of_decide_eq_true rfl) (hts (.fieldLink RX11 43 "ShortEnough" "reckoning" "LShortEnough$Reckoning;") zw_X11_error_703) (fun _ h9 => h9) rfl dX11_error_54 ?_
    refine va_get (D := (dC, dI)) (ci := 7) (v := .int o_11.2.1) (C := RX7) (T := TX7) (N := 3) hx hb hts zn_X11_error_X7 hown hK hP 4 rfl rfl 1 (of_decide_eq_true rfl) (hts (.fieldLink RX11 242 "ShortEnough$Reckoning" "failsAt" "I") zw_X11_error_709) (fun _ h9 => h9) rfl dX11_error_57 ?_
    refine lv_icmp_gt (tgt := 75) hx hb dX11_error_60 (of_decide_eq_true rfl) (fun c_17 => ?_) (fun c_17 => ?_)
    · have hfn := (if_pos c_17).symm.trans hfn
      refine lv_ldc2 (v := (-1000000000000000)) hx hb hown (hts (.constantLong RX11 194 (-1000000000000000)) zw_X11_error_702) dX11_error_75 ?_
      have ho := Option.some.inj hfn
      subst ho
      exact zrl hx hb hr hK hP hD hS hQ rfl hlocks dX11_error_78
    have hfn := (if_neg c_17).symm.trans hfn
    refine lv_aload_n hx hb dX11_error_63 rfl (lv_at hl 1 rfl) ?_
    refine va_get (D := (dC, dI)) (ci := 11) (v := .ref r0_8) (C := RX11) (T := TX11) (N := 16) hx hb hts zn_X11_error_X11 hown hK hP 0 rfl rfl 8 (of_decide_eq_true rfl) (hts (.fieldLink RX11 43 "ShortEnough" "reckoning" "LShortEnough$Reckoning;") zw_X11_error_703) (fun _ h9 => h9) rfl dX11_error_64 ?_
    refine va_get (D := (dC, dI)) (ci := 7) (v := .ref r4_0) (C := RX7) (T := TX7) (N := 3) hx hb hts zn_X11_error_X7 hown hK hP 4 rfl rfl 0 (of_decide_eq_true rfl) (hts (.fieldLink RX11 248 "ShortEnough$Reckoning" "errors" "[J") zw_X11_error_708) (fun _ h9 => h9) rfl dX11_error_67 ?_
    refine lv_iload_n hx hb dX11_error_70 rfl (lv_at hl 2 rfl) ?_
    obtain ⟨h_18, hfn⟩ := zg_s hfn
    refine va_lald hx hb hK hP 10 5 rfl rfl h_18 dX11_error_71 ?_
    refine lv_goto (tgt := 78) hx hb dX11_error_72 (of_decide_eq_true rfl) ?_
    have ho := Option.some.inj hfn
    subst ho
    exact zrl hx hb hr hK hP hD hS hQ rfl hlocks dX11_error_78
  have hfn := (if_pos c_10).symm.trans hfn
  refine lv_ldc2 (v := (-1000000000000000)) hx hb hown (hts (.constantLong RX11 194 (-1000000000000000)) zw_X11_error_702) dX11_error_21 ?_
  have ho := Option.some.inj hfn
  subst ho
  exact zrl hx hb hr hK hP hD hS hQ rfl hlocks dX11_error_24
theorem zn_X11_handPasses_X11 : ∀ w ∈ wsX110, w ∈ wsX11_handPasses := fun _ h => List.mem_cons_of_mem _ (List.mem_append_left _ (List.mem_append_left _ (List.mem_append_left _ (List.mem_append_left _ (List.mem_append_left _ (List.mem_append_right _ h))))))
theorem zw_X11_handPasses_714 : Cond.fieldLink RX11 27 "ShortEnough" "current" "LShortEnough$Task;" ∈ wsX11_handPasses := List.mem_of_getElem? (i := 1) (by decide +kernel)
theorem zw_X11_handPasses_715 : Cond.fieldLink RX11 43 "ShortEnough" "reckoning" "LShortEnough$Reckoning;" ∈ wsX11_handPasses := List.mem_of_getElem? (i := 2) (by decide +kernel)
theorem zn_X11_handPasses_X9 : ∀ w ∈ wsX90, w ∈ wsX11_handPasses := fun _ h => List.mem_cons_of_mem _ (List.mem_append_left _ (List.mem_append_left _ (List.mem_append_left _ (List.mem_append_left _ (List.mem_append_right _ h)))))
theorem zw_X11_handPasses_717 : Cond.fieldLink RX11 200 "ShortEnough$Task" "ranges" "LShortEnough$Ranges;" ∈ wsX11_handPasses := List.mem_of_getElem? (i := 3) (by decide +kernel)
theorem zw_X11_handPasses_718 : Cond.fieldLink RX11 34 "ShortEnough" "hand" "[I" ∈ wsX11_handPasses := List.mem_of_getElem? (i := 4) (by decide +kernel)
set_option maxHeartbeats 4000000 in
set_option maxRecDepth 100000 in
theorem zf_X11_handPasses (l : Launch) (dC : Nat → ClassId) (dI : Nat → Nat → Nat) (h0 : Nat) (r0_0 : Nat) (v0_1 : Int32) (r0_2 : Nat) (r0_3 : Nat) (r0_4 : Nat) (r0_5 : Nat) (r0_6 : Nat) (r0_7 : Nat) (r0_8 : Nat) (r0_9 : Nat) (r0_10 : Nat) (r0_11 : Nat) (r0_12 : Nat) (r0_13 : Nat) (r0_14 : Nat) (v0_15 : Int32) (v1_0 : Int32) (r1_1 : Nat) (r1_2 : Nat) (r1_3 : Nat) (r1_4 : Nat) (v1_5 : Int32) (r1_6 : Nat) (r1_7 : Nat) (r1_8 : Nat) (v2_0 : Int32) (v2_1 : Int32) (r2_2 : Nat) (r2_3 : Nat) (r2_4 : Nat) (r2_5 : Nat) (r2_6 : Nat) (r2_7 : Nat) (r2_8 : Nat) (r2_9 : Nat) (v3_0 : Int32) (v3_1 : Int32) (v3_2 : Int32) (r3_3 : Nat) (r3_4 : Nat) (r3_5 : Nat) (r4_0 : Nat) (v4_1 : Int32) (v4_2 : Int32) (k5 : Nat) (f5 : Nat → Int32) (k6 : Nat) (f6 : Nat → Int32) (k7 : Nat) (f7 : Nat → Int32) (k8 : Nat) (f8 : Nat → Int32) (k9 : Nat) (f9 : Nat → Int32) (k10 : Nat) (f10 : Nat → Int64) (k11 : Nat) (f11 : Nat → Int32) (r12_0 : Nat) (r12_1 : Nat) (r12_2 : Nat) (k13 : Nat) (f13 : Nat → Int64) (k14 : Nat) (f14 : Nat → Int64) (k15 : Nat) (f15 : Nat → Int32) (k16 : Nat) (f16 : Nat → Int32) (o : Int32 × Int32 × Int32 × (Nat → Int64)) (hfn : fn_X11_handPasses v1_0 v2_0 v3_2 v4_1 v4_2 f5 f6 f7 f8 f9 f10 f11 f13 f14 f15 f16 = some o) (sz : Nat) : zNi [(RX7, 90, yX11_divides, RX11)] l yX11_handPasses wsX11_handPasses ({ frames := 4, cells := 0, slots := 0, locals := 125 }) (dC, dI) vwCl [.ref h0] [zV11 h0 r0_0 v0_1 r0_2 r0_3 r0_4 r0_5 r0_6 r0_7 r0_8 r0_9 r0_10 r0_11 r0_12 r0_13 r0_14 v0_15, zV9 r0_4 v1_0 r1_1 r1_2 r1_3 r1_4 v1_5 r1_6 r1_7 r1_8, zV4 r1_6 v2_0 v2_1 r2_2 r2_3 r2_4 r2_5 r2_6 r2_7 r2_8 r2_9, zV2 r1_7 v3_0 v3_1 v3_2 r3_3 r3_4 r3_5, zV7 r0_8 r4_0 v4_1 v4_2, zVi r3_3 k5 14 f5, zVi r0_6 k6 14 f6, zVi r1_2 k7 4 f7, zVi r2_3 k8 14 f8, zVi r2_8 k9 28 f9, zVl r4_0 k10 14 f10, zVi r2_9 k11 28 f11, zV6 r1_8 r12_0 r12_1 r12_2, zVl r12_0 k13 14 f13, zVl r12_1 k14 14 f14, zVi r1_3 k15 4 f15, zVi r2_5 k16 14 f16] [(k5, .int), (k6, .int), (k7, .int), (k8, .int), (k9, .int), (k10, .long), (k11, .int), (k13, .long), (k14, .long), (k15, .int), (k16, .int)] (fun r _ => r = o.1 ∧ narrow .boolean (.int o.1) = .int o.1) [zV11 h0 r0_0 v0_1 r0_2 r0_3 r0_4 r0_5 r0_6 r0_7 r0_8 r0_9 r0_10 r0_11 r0_12 r0_13 r0_14 v0_15, zV9 r0_4 v1_0 r1_1 r1_2 r1_3 r1_4 v1_5 r1_6 r1_7 r1_8, zV4 r1_6 v2_0 v2_1 r2_2 r2_3 r2_4 r2_5 r2_6 r2_7 r2_8 r2_9, zV2 r1_7 v3_0 v3_1 v3_2 r3_3 r3_4 r3_5, zV7 r0_8 r4_0 o.2.1 o.2.2.1, zVi r3_3 k5 14 f5, zVi r0_6 k6 14 f6, zVi r1_2 k7 4 f7, zVi r2_3 k8 14 f8, zVi r2_8 k9 28 f9, zVl r4_0 k10 14 o.2.2.2, zVi r2_9 k11 28 f11, zV6 r1_8 r12_0 r12_1 r12_2, zVl r12_0 k13 14 f13, zVl r12_1 k14 14 f14, zVi r1_3 k15 4 f15, zVi r2_5 k16 14 f16] [(k5, .int), (k6, .int), (k7, .int), (k8, .int), (k9, .int), (k10, .long), (k11, .int), (k13, .long), (k14, .long), (k15, .int), (k16, .int)] sz := by
  refine zgoNi (cc := cX11_handPasses) (maxL := 1) (ret := (some .boolean)) (C0 := RX11) (lv0 := [(0, .ref h0)]) zpl_X11 rfl rfl rfl (Nat.le_of_ble_eq_true rfl) ?_
  intro p e s m below meth c A ls Q hN hx hb hr hts hown hlocks hml hP hK hD hA hS hl hQ
  have hn0 : va_Nw (.methodLinkNest RX7 90 yX11_divides RX11) s := hN.1
  unfold fn_X11_handPasses at hfn
  refine lv_aload_n hx hb dX11_handPasses_0 rfl (lv_at hl 0 rfl) ?_
  refine va_get (D := (dC, dI)) (ci := 11) (v := .ref r0_4) (C := RX11) (T := TX11) (N := 16) hx hb hts zn_X11_handPasses_X11 hown hK hP 0 rfl rfl 4 (of_decide_eq_true rfl) (hts (.fieldLink RX11 27 "ShortEnough" "current" "LShortEnough$Task;") zw_X11_handPasses_714) (fun _ h9 => h9) rfl dX11_handPasses_1 ?_
  obtain ⟨o_1, hqo_1, hfn⟩ := zb_s hfn
  refine zcVb (ci := 9) (rest := []) (pc' := 7) (ws' := [zV11 h0 r0_0 v0_1 r0_2 r0_3 r0_4 r0_5 r0_6 r0_7 r0_8 r0_9 r0_10 r0_11 r0_12 r0_13 r0_14 v0_15, zV9 r0_4 v1_0 r1_1 r1_2 r1_3 r1_4 v1_5 r1_6 r1_7 r1_8, zV4 r1_6 v2_0 v2_1 r2_2 r2_3 r2_4 r2_5 r2_6 r2_7 r2_8 r2_9, zV2 r1_7 v3_0 v3_1 v3_2 r3_3 r3_4 r3_5, zV7 r0_8 r4_0 v4_1 v4_2, zVi r3_3 k5 14 f5, zVi r0_6 k6 14 f6, zVi r1_2 k7 4 f7, zVi r2_3 k8 14 f8, zVi r2_8 k9 28 f9, zVl r4_0 k10 14 f10, zVi r2_9 k11 28 f11, zV6 r1_8 r12_0 r12_1 r12_2, zVl r12_0 k13 14 f13, zVl r12_1 k14 14 f14, zVi r1_3 k15 4 f15, zVi r2_5 k16 14 f16]) hP hK hD hS hA ⟨hx, hb, hml, hown, hts⟩ (zf_X9_hasChoice l dC dI r0_4 v1_0 r1_1 r1_2 r1_3 r1_4 v1_5 r1_6 r1_7 r1_8 v2_0 v2_1 r2_2 r2_3 r2_4 r2_5 r2_6 r2_7 r2_8 r2_9 v3_0 v3_1 v3_2 r3_3 r3_4 r3_5 o_1 hqo_1 s.heap.size) (cwV 0 hts gX11_handPasses_X9_hasChoice rfl rfl rfl zhd_X9_hasChoice ⟨Nat.le_of_ble_eq_true rfl, Nat.le_of_ble_eq_true rfl⟩) [1, 2, 3] rfl (of_decide_eq_true rfl) [] rfl rfl rfl rfl hl.1 rfl (Nat.le_of_ble_eq_true rfl) dX11_handPasses_4 ⟨Nat.le_of_ble_eq_true rfl, Nat.le_of_ble_eq_true rfl⟩ [none, some 0, some 1, some 2] (of_decide_eq_true rfl) (of_decide_eq_true rfl) rfl rfl rfl (fun H locs hw_4n hP hD hS => ?_)
  refine lv_if_eq (tgt := 39) hx hb dX11_handPasses_7 (of_decide_eq_true rfl) (fun c_5 => ?_) (fun c_5 => ?_)
  · have hfn := (if_pos c_5).symm.trans hfn
    refine lv_iconst (v := 0) hx hb dX11_handPasses_39 zci_0 ?_
    have ho := Option.some.inj hfn
    subst ho
    exact zrz hx hb hr rfl hK hP hD hS hQ ⟨rfl, zB0⟩ hlocks dX11_handPasses_40
  have hfn := (if_neg c_5).symm.trans hfn
  refine lv_aload_n hx hb dX11_handPasses_10 rfl (lv_at hl 0 rfl) ?_
  refine va_get (D := (dC, dI)) (ci := 11) (v := .ref r0_8) (C := RX11) (T := TX11) (N := 16) hx hb hts zn_X11_handPasses_X11 hown hK hP 0 rfl rfl 8 (of_decide_eq_true rfl) (hts (.fieldLink RX11 43 "ShortEnough" "reckoning" "LShortEnough$Reckoning;") zw_X11_handPasses_715) (fun _ h9 => h9) rfl dX11_handPasses_11 ?_
  refine lv_aload_n hx hb dX11_handPasses_14 rfl (lv_at hl 0 rfl) ?_
  refine va_get (D := (dC, dI)) (ci := 11) (v := .ref r0_4) (C := RX11) (T := TX11) (N := 16) hx hb hts zn_X11_handPasses_X11 hown hK hP 0 rfl rfl 4 (of_decide_eq_true rfl) (hts (.fieldLink RX11 27 "ShortEnough" "current" "LShortEnough$Task;") zw_X11_handPasses_714) (fun _ h9 => h9) rfl dX11_handPasses_15 ?_
  refine lv_aload_n hx hb dX11_handPasses_18 rfl (lv_at hl 0 rfl) ?_
  refine va_get (D := (dC, dI)) (ci := 11) (v := .ref r0_4) (C := RX11) (T := TX11) (N := 16) hx hb hts zn_X11_handPasses_X11 hown hK hP 0 rfl rfl 4 (of_decide_eq_true rfl) (hts (.fieldLink RX11 27 "ShortEnough" "current" "LShortEnough$Task;") zw_X11_handPasses_714) (fun _ h9 => h9) rfl dX11_handPasses_19 ?_
  refine va_get (D := (dC, dI)) (ci := 9) (v := .ref r1_8) (C := RX9) (T := TX9) (N := 9) hx hb hts zn_X11_handPasses_X9 hown hK hP 1 rfl rfl 8 (of_decide_eq_true rfl) (hts (.fieldLink RX11 200 "ShortEnough$Task" "ranges" "LShortEnough$Ranges;") zw_X11_handPasses_717) (fun _ h9 => h9) rfl dX11_handPasses_22 ?_
  refine lv_aload_n hx hb dX11_handPasses_25 rfl (lv_at hl 0 rfl) ?_
  refine va_get (D := (dC, dI)) (ci := 11) (v := .ref r0_6) (C := RX11) (T := TX11) (N := 16) hx hb hts zn_X11_handPasses_X11 hown hK hP 0 rfl rfl 6 (of_decide_eq_true rfl) (hts (.fieldLink RX11 34 "ShortEnough" "hand" "[I") zw_X11_handPasses_718) (fun _ h9 => h9) rfl dX11_handPasses_26 ?_
  obtain ⟨o_6, hqo_6, hfn⟩ := zb_s hfn
  refine zcNVb (ci := 7) (rest := []) (pc' := 32) (ws' := [zV11 h0 r0_0 v0_1 r0_2 r0_3 r0_4 r0_5 r0_6 r0_7 r0_8 r0_9 r0_10 r0_11 r0_12 r0_13 r0_14 v0_15, zV9 r0_4 v1_0 r1_1 r1_2 r1_3 r1_4 v1_5 r1_6 r1_7 r1_8, zV4 r1_6 v2_0 v2_1 r2_2 r2_3 r2_4 r2_5 r2_6 r2_7 r2_8 r2_9, zV2 r1_7 v3_0 v3_1 v3_2 r3_3 r3_4 r3_5, zV7 r0_8 r4_0 o_6.2.1 o_6.2.2.1, zVi r3_3 k5 14 f5, zVi r0_6 k6 14 f6, zVi r1_2 k7 4 f7, zVi r2_3 k8 14 f8, zVi r2_8 k9 28 f9, zVl r4_0 k10 14 o_6.2.2.2, zVi r2_9 k11 28 f11, zV6 r1_8 r12_0 r12_1 r12_2, zVl r12_0 k13 14 f13, zVl r12_1 k14 14 f14, zVi r1_3 k15 4 f15, zVi r2_5 k16 14 f16]) hP hK hD hS hA ⟨hx, hb, hml, hown, hts⟩ (zf_X7_reckon l dC dI r0_8 r0_4 r1_8 r0_6 r4_0 v4_1 v4_2 v1_0 r1_1 r1_2 r1_3 r1_4 v1_5 r1_6 r1_7 r1_8 v2_0 v2_1 r2_2 r2_3 r2_4 r2_5 r2_6 r2_7 r2_8 r2_9 v3_0 v3_1 v3_2 r3_3 r3_4 r3_5 k5 f5 k6 f6 k7 f7 k8 f8 k9 f9 k10 f10 k11 f11 r12_0 r12_1 r12_2 k13 f13 k14 f14 k15 f15 k16 f16 o_6 hqo_6 H.size) ⟨hn0, trivial⟩ (cwV 3 hts gX11_handPasses_X7_reckon rfl rfl rfl zhd_X7_reckon ⟨Nat.le_of_ble_eq_true rfl, Nat.le_of_ble_eq_true rfl⟩) [4, 1, 2, 3, 5, 6, 7, 8, 9, 10, 11, 12, 13, 14, 15, 16] rfl (of_decide_eq_true rfl) [0, 1, 2, 3, 4, 5, 6, 7, 8, 9, 10] rfl rfl rfl rfl hl.1 rfl (Nat.le_of_ble_eq_true rfl) dX11_handPasses_29 ⟨Nat.le_of_ble_eq_true rfl, Nat.le_of_ble_eq_true rfl⟩ [none, some 1, some 2, some 3, some 0, some 4, some 5, some 6, some 7, some 8, some 9, some 10, some 11, some 12, some 13, some 14, some 15] (of_decide_eq_true rfl) (of_decide_eq_true rfl) rfl rfl rfl (fun H locs hw_9n hP hD hS => ?_)
  refine lv_if_eq (tgt := 39) hx hb dX11_handPasses_32 (of_decide_eq_true rfl) (fun c_10 => ?_) (fun c_10 => ?_)
  · have hfn := (if_pos c_10).symm.trans hfn
    refine lv_iconst (v := 0) hx hb dX11_handPasses_39 zci_0 ?_
    have ho := Option.some.inj hfn
    subst ho
    exact zrz hx hb hr rfl hK hP hD hS hQ ⟨rfl, zB0⟩ hlocks dX11_handPasses_40
  have hfn := (if_neg c_10).symm.trans hfn
  refine lv_iconst (v := 1) hx hb dX11_handPasses_35 zci_1 ?_
  refine lv_goto (tgt := 40) hx hb dX11_handPasses_36 (of_decide_eq_true rfl) ?_
  have ho := Option.some.inj hfn
  subst ho
  exact zrz hx hb hr rfl hK hP hD hS hQ ⟨rfl, zB1⟩ hlocks dX11_handPasses_40
