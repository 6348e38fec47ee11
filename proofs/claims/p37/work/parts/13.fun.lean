theorem zn_X5_readAnswer_X9 : ∀ w ∈ wsX90, w ∈ wsX5_readAnswer := fun _ h => List.mem_cons_of_mem _ (List.mem_append_left _ (List.mem_append_left _ (List.mem_append_left _ (List.mem_append_right _ h))))
theorem zw_X5_readAnswer_466 : Cond.fieldLink RX5 44 "ShortEnough$Task" "numbers" "LShortEnough$Numbers;" ∈ wsX5_readAnswer := List.mem_of_getElem? (i := 1) (by decide +kernel)
theorem zn_X5_readAnswer_X5 : ∀ w ∈ wsX50, w ∈ wsX5_readAnswer := fun _ h => List.mem_cons_of_mem _ (List.mem_append_left _ (List.mem_append_left _ (List.mem_append_right _ h)))
theorem zw_X5_readAnswer_468 : Cond.fieldLink RX5 12 "ShortEnough$Parser" "words" "LShortEnough$Words;" ∈ wsX5_readAnswer := List.mem_of_getElem? (i := 2) (by decide +kernel)
theorem zn_X5_readAnswer_X10 : ∀ w ∈ wsX100, w ∈ wsX5_readAnswer := fun _ h => List.mem_cons_of_mem _ (List.mem_append_left _ (List.mem_append_right _ h))
theorem zw_X5_readAnswer_470 : Cond.fieldLink RX5 138 "ShortEnough$Words" "value" "I" ∈ wsX5_readAnswer := List.mem_of_getElem? (i := 3) (by decide +kernel)
theorem zw_X5_readAnswer_476 : Cond.fieldLink RX5 102 "ShortEnough$Parser" "got" "I" ∈ wsX5_readAnswer := List.mem_of_getElem? (i := 4) (by decide +kernel)
theorem zw_X5_readAnswer_477 : Cond.constant RX5 108 (1000000) ∈ wsX5_readAnswer := List.mem_of_getElem? (i := 5) (by decide +kernel)
set_option maxHeartbeats 4000000 in
set_option maxRecDepth 100000 in
theorem zf_X5_readAnswer (l : Launch) (dC : Nat → ClassId) (dI : Nat → Nat → Nat) (h0 : Nat) (h1 : Nat) (r0_0 : Nat) (v0_1 : Int32) (v0_2 : Int32) (v0_3 : Int32) (v1_0 : Int32) (r1_1 : Nat) (r1_2 : Nat) (r1_3 : Nat) (r1_4 : Nat) (v1_5 : Int32) (r1_6 : Nat) (r1_7 : Nat) (r1_8 : Nat) (r2_0 : Nat) (r2_1 : Nat) (v2_2 : Int32) (v2_3 : Int32) (v2_4 : Int32) (v2_5 : Int32) (v2_6 : Int32) (v2_7 : Int32) (v3_0 : Int32) (v3_1 : Int32) (r3_2 : Nat) (r3_3 : Nat) (r3_4 : Nat) (r3_5 : Nat) (r3_6 : Nat) (r3_7 : Nat) (r3_8 : Nat) (r3_9 : Nat) (k4 : Nat) (f4 : Nat → Int32) (k5 : Nat) (f5 : Nat → Int32) (k6 : Nat) (f6 : Nat → Int32) (k7 : Nat) (f7 : Nat → Int32) (o : Int32 × Int32 × Int32 × Int32 × Int32 × Int32 × Int32 × Int32 × Int32 × (Nat → Int32)) (hfn : fn_X5_readAnswer v0_1 v0_2 v0_3 v2_2 v2_3 v2_4 v2_5 v2_6 v2_7 v3_0 f4 f5 f6 f7 = some o) (sz : Nat) : zMi l yX5_readAnswer wsX5_readAnswer ({ frames := 3, cells := 0, slots := 0, locals := 72 }) (dC, dI) vwCl [.ref h0, .ref h1] [zV5 h0 r0_0 v0_1 v0_2 v0_3, zV9 h1 v1_0 r1_1 r1_2 r1_3 r1_4 v1_5 r1_6 r1_7 r1_8, zV10 r0_0 r2_0 r2_1 v2_2 v2_3 v2_4 v2_5 v2_6 v2_7, zV4 r1_6 v3_0 v3_1 r3_2 r3_3 r3_4 r3_5 r3_6 r3_7 r3_8 r3_9, zVi r3_2 k4 14 f4, zVi r2_1 k5 1200 f5, zVi r2_0 k6 13 f6, zVi r3_5 k7 14 f7] [(k4, .int), (k5, .byte), (k6, .int), (k7, .int)] (fun r _ => r = o.1 ∧ narrow .boolean (.int o.1) = .int o.1) [zV5 h0 r0_0 o.2.1 o.2.2.1 o.2.2.2.1, zV9 h1 v1_0 r1_1 r1_2 r1_3 r1_4 v1_5 r1_6 r1_7 r1_8, zV10 r0_0 r2_0 r2_1 v2_2 o.2.2.2.2.1 o.2.2.2.2.2.1 o.2.2.2.2.2.2.1 o.2.2.2.2.2.2.2.1 o.2.2.2.2.2.2.2.2.1, zV4 r1_6 v3_0 v3_1 r3_2 r3_3 r3_4 r3_5 r3_6 r3_7 r3_8 r3_9, zVi r3_2 k4 14 f4, zVi r2_1 k5 1200 f5, zVi r2_0 k6 13 f6, zVi r3_5 k7 14 o.2.2.2.2.2.2.2.2.2] [(k4, .int), (k5, .byte), (k6, .int), (k7, .int)] sz := by
  refine zgoi (cc := cX5_readAnswer) (maxL := 3) (ret := (some .boolean)) (C0 := RX5) (lv0 := [(0, .ref h0), (1, .ref h1)]) zpl_X5 rfl rfl rfl (Nat.le_of_ble_eq_true rfl) ?_
  intro p e s m below meth c A ls Q hx hb hr hts hown hlocks hml hP hK hD hA hS hl hQ
  unfold fn_X5_readAnswer at hfn
  refine lv_aload_n hx hb dX5_readAnswer_0 rfl (lv_at hl 0 rfl) ?_
  refine lv_aload_n hx hb dX5_readAnswer_1 rfl (lv_at hl 1 rfl) ?_
  refine va_get (D := (dC, dI)) (ci := 9) (v := .ref r1_6) (C := RX9) (T := TX9) (N := 9) hx hb hts zn_X5_readAnswer_X9 hown hK hP 1 rfl rfl 6 (of_decide_eq_true rfl) (hts (.fieldLink RX5 44 "ShortEnough$Task" "numbers" "LShortEnough$Numbers;") zw_X5_readAnswer_466) (fun _ h9 => h9) rfl dX5_readAnswer_2 ?_
  refine lv_aload_n hx hb dX5_readAnswer_5 rfl (lv_at hl 0 rfl) ?_
  refine va_get (D := (dC, dI)) (ci := 5) (v := .ref r0_0) (C := RX5) (T := TX5) (N := 4) hx hb hts zn_X5_readAnswer_X5 hown hK hP 0 rfl rfl 0 (of_decide_eq_true rfl) (hts (.fieldLink RX5 12 "ShortEnough$Parser" "words" "LShortEnough$Words;") zw_X5_readAnswer_468) (fun _ h9 => h9) rfl dX5_readAnswer_6 ?_
  refine va_get (D := (dC, dI)) (ci := 10) (v := .int v2_6) (C := RX10) (T := TX10) (N := 8) hx hb hts zn_X5_readAnswer_X10 hown hK hP 2 rfl rfl 6 (of_decide_eq_true rfl) (hts (.fieldLink RX5 138 "ShortEnough$Words" "value" "I") zw_X5_readAnswer_470) (fun _ h9 => h9) rfl dX5_readAnswer_9 ?_
  obtain ⟨o_1, hqo_1, hfn⟩ := zb_s hfn
  refine zcVi (ci := 4) (rest := [.ref h0]) (pc' := 15) (ws' := [zV5 h0 r0_0 v0_1 v0_2 v0_3, zV9 h1 v1_0 r1_1 r1_2 r1_3 r1_4 v1_5 r1_6 r1_7 r1_8, zV10 r0_0 r2_0 r2_1 v2_2 v2_3 v2_4 v2_5 v2_6 v2_7, zV4 r1_6 v3_0 v3_1 r3_2 r3_3 r3_4 r3_5 r3_6 r3_7 r3_8 r3_9, zVi r3_2 k4 14 f4, zVi r2_1 k5 1200 f5, zVi r2_0 k6 13 f6, zVi r3_5 k7 14 f7]) hP hK hD hS hA ⟨hx, hb, hml, hown, hts⟩ (zf_X4_find l dC dI r1_6 v2_6 v3_0 v3_1 r3_2 r3_3 r3_4 r3_5 r3_6 r3_7 r3_8 r3_9 k4 f4 o_1 hqo_1 s.heap.size) (cwV 1 hts gX5_readAnswer_X4_find rfl rfl rfl zhd_X4_find ⟨Nat.le_of_ble_eq_true rfl, Nat.le_of_ble_eq_true rfl⟩) [3, 4] rfl (of_decide_eq_true rfl) [0] rfl rfl rfl rfl hl.1 rfl (Nat.le_of_ble_eq_true rfl) dX5_readAnswer_12 ⟨Nat.le_of_ble_eq_true rfl, Nat.le_of_ble_eq_true rfl⟩ [none, none, none, some 0, some 1] (of_decide_eq_true rfl) (of_decide_eq_true rfl) rfl rfl rfl (fun H locs hP hD hS => ?_)
  obtain ⟨o_5, hqo_5, hfn⟩ := zb_s hfn
  refine zcVb (ci := 5) (rest := []) (pc' := 18) (ws' := [zV5 h0 r0_0 o_5.2.1 o_5.2.2.1 o_5.2.2.2.1, zV9 h1 v1_0 r1_1 r1_2 r1_3 r1_4 v1_5 r1_6 r1_7 r1_8, zV10 r0_0 r2_0 r2_1 v2_2 o_5.2.2.2.2.1 o_5.2.2.2.2.2.1 o_5.2.2.2.2.2.2.1 o_5.2.2.2.2.2.2.2.1 o_5.2.2.2.2.2.2.2.2, zV4 r1_6 v3_0 v3_1 r3_2 r3_3 r3_4 r3_5 r3_6 r3_7 r3_8 r3_9, zVi r3_2 k4 14 f4, zVi r2_1 k5 1200 f5, zVi r2_0 k6 13 f6, zVi r3_5 k7 14 f7]) hP hK hD hS hA ⟨hx, hb, hml, hown, hts⟩ (zf_X5_readKnown l dC dI h0 o_1 r0_0 v0_1 v0_2 v0_3 r2_0 r2_1 v2_2 v2_3 v2_4 v2_5 v2_6 v2_7 k5 f5 k6 f6 o_5 hqo_5 H.size) (cwV 1 hts gX5_readAnswer_X5_readKnown rfl rfl rfl zhd_X5_readKnown ⟨Nat.le_of_ble_eq_true rfl, Nat.le_of_ble_eq_true rfl⟩) [0, 2, 5, 6] rfl (of_decide_eq_true rfl) [1, 2] rfl rfl rfl rfl hl.1 rfl (Nat.le_of_ble_eq_true rfl) dX5_readAnswer_15 ⟨Nat.le_of_ble_eq_true rfl, Nat.le_of_ble_eq_true rfl⟩ [some 0, none, some 1, none, none, some 2, some 3] (of_decide_eq_true rfl) (of_decide_eq_true rfl) rfl rfl rfl (fun H locs hw_8n hP hD hS => ?_)
  refine lv_if_ne (tgt := 23) hx hb dX5_readAnswer_18 (of_decide_eq_true rfl) (fun c_9 => ?_) (fun c_9 => ?_)
  · have hfn := (if_neg c_9).symm.trans hfn
    refine lv_aload_n hx hb dX5_readAnswer_23 rfl (lv_at hl 0 rfl) ?_
    refine va_get (D := (dC, dI)) (ci := 5) (v := .int o_5.2.1) (C := RX5) (T := TX5) (N := 4) hx hb hts zn_X5_readAnswer_X5 hown hK hP 0 rfl rfl 1 (of_decide_eq_true rfl) (hts (.fieldLink RX5 102 "ShortEnough$Parser" "got" "I") zw_X5_readAnswer_476) (fun _ h9 => h9) rfl dX5_readAnswer_24 ?_
    refine lv_istore_n (lv' := [(2, .int o_5.2.1), (0, .ref h0), (1, .ref h1)]) hx hb dX5_readAnswer_27 rfl hl (of_decide_eq_true rfl) rfl (fun ls hl => ?_)
    refine lv_aload_n hx hb dX5_readAnswer_28 rfl (lv_at hl 1 rfl) ?_
    refine lv_bipush (v := 12) hx hb dX5_readAnswer_29 zcb_12 ?_
    obtain ⟨o_10, hqo_10, hfn⟩ := zb_s hfn
    refine zcVb (ci := 5) (rest := []) (pc' := 34) (ws' := [zV5 h0 r0_0 o_5.2.1 o_10.2.1 o_10.2.2.1, zV9 h1 v1_0 r1_1 r1_2 r1_3 r1_4 v1_5 r1_6 r1_7 r1_8, zV10 r0_0 r2_0 r2_1 v2_2 o_10.2.2.2.1 o_10.2.2.2.2.1 o_10.2.2.2.2.2.1 o_10.2.2.2.2.2.2.1 o_10.2.2.2.2.2.2.2, zV4 r1_6 v3_0 v3_1 r3_2 r3_3 r3_4 r3_5 r3_6 r3_7 r3_8 r3_9, zVi r3_2 k4 14 f4, zVi r2_1 k5 1200 f5, zVi r2_0 k6 13 f6, zVi r3_5 k7 14 f7]) hP hK hD hS hA ⟨hx, hb, hml, hown, hts⟩ (zf_X5_readOwn l dC dI h0 12 r0_0 o_5.2.1 o_5.2.2.1 o_5.2.2.2.1 r2_0 r2_1 v2_2 o_5.2.2.2.2.1 o_5.2.2.2.2.2.1 o_5.2.2.2.2.2.2.1 o_5.2.2.2.2.2.2.2.1 o_5.2.2.2.2.2.2.2.2 k5 f5 k6 f6 o_10 hqo_10 H.size) (cwV 1 hts gX5_readAnswer_X5_readOwn rfl rfl rfl zhd_X5_readOwn ⟨Nat.le_of_ble_eq_true rfl, Nat.le_of_ble_eq_true rfl⟩) [0, 2, 5, 6] rfl (of_decide_eq_true rfl) [1, 2] rfl rfl rfl rfl hl.1 rfl (Nat.le_of_ble_eq_true rfl) dX5_readAnswer_31 ⟨Nat.le_of_ble_eq_true rfl, Nat.le_of_ble_eq_true rfl⟩ [some 0, none, some 1, none, none, some 2, some 3] (of_decide_eq_true rfl) (of_decide_eq_true rfl) rfl rfl rfl (fun H locs hw_13n hP hD hS => ?_)
    refine lv_if_eq (tgt := 48) hx hb dX5_readAnswer_34 (of_decide_eq_true rfl) (fun c_14 => ?_) (fun c_14 => ?_)
    · have hfn := (if_pos c_14).symm.trans hfn
      refine lv_iconst (v := 0) hx hb dX5_readAnswer_48 zci_0 ?_
      have ho := Option.some.inj hfn
      subst ho
      exact zrz hx hb hr rfl hK hP hD hS hQ ⟨rfl, zB0⟩ hlocks dX5_readAnswer_49
    have hfn := (if_neg c_14).symm.trans hfn
    refine lv_aload_n hx hb dX5_readAnswer_37 rfl (lv_at hl 1 rfl) ?_
    refine lv_iconst (v := 0) hx hb dX5_readAnswer_38 zci_0 ?_
    refine lv_iconst (v := 0) hx hb dX5_readAnswer_39 zci_0 ?_
    refine lv_ldc (v := 1000000) hx hb hown (hts (.constant RX5 108 (1000000)) zw_X5_readAnswer_477) dX5_readAnswer_40 ?_
    obtain ⟨o_15, hqo_15, hfn⟩ := zb_s hfn
    refine zcVb (ci := 5) (rest := []) (pc' := 45) (ws' := [zV5 h0 r0_0 o_15.2.1 o_15.2.2.1 o_15.2.2.2.1, zV9 h1 v1_0 r1_1 r1_2 r1_3 r1_4 v1_5 r1_6 r1_7 r1_8, zV10 r0_0 r2_0 r2_1 v2_2 o_15.2.2.2.2.1 o_15.2.2.2.2.2.1 o_15.2.2.2.2.2.2.1 o_15.2.2.2.2.2.2.2.1 o_15.2.2.2.2.2.2.2.2, zV4 r1_6 v3_0 v3_1 r3_2 r3_3 r3_4 r3_5 r3_6 r3_7 r3_8 r3_9, zVi r3_2 k4 14 f4, zVi r2_1 k5 1200 f5, zVi r2_0 k6 13 f6, zVi r3_5 k7 14 f7]) hP hK hD hS hA ⟨hx, hb, hml, hown, hts⟩ (zf_X5_readValue l dC dI h0 0 0 1000000 r0_0 o_5.2.1 o_10.2.1 o_10.2.2.1 r2_0 r2_1 v2_2 o_10.2.2.2.1 o_10.2.2.2.2.1 o_10.2.2.2.2.2.1 o_10.2.2.2.2.2.2.1 o_10.2.2.2.2.2.2.2 k5 f5 k6 f6 o_15 hqo_15 H.size) (cwV 3 hts gX5_readAnswer_X5_readValue rfl rfl rfl zhd_X5_readValue ⟨Nat.le_of_ble_eq_true rfl, Nat.le_of_ble_eq_true rfl⟩) [0, 2, 5, 6] rfl (of_decide_eq_true rfl) [1, 2] rfl rfl rfl rfl hl.1 rfl (Nat.le_of_ble_eq_true rfl) dX5_readAnswer_42 ⟨Nat.le_of_ble_eq_true rfl, Nat.le_of_ble_eq_true rfl⟩ [some 0, none, some 1, none, none, some 2, some 3] (of_decide_eq_true rfl) (of_decide_eq_true rfl) rfl rfl rfl (fun H locs hw_18n hP hD hS => ?_)
    refine lv_if_ne (tgt := 50) hx hb dX5_readAnswer_45 (of_decide_eq_true rfl) (fun c_19 => ?_) (fun c_19 => ?_)
    · have hfn := (if_neg c_19).symm.trans hfn
      refine lv_aload_n hx hb dX5_readAnswer_50 rfl (lv_at hl 2 rfl) ?_
      refine va_get (D := (dC, dI)) (ci := 9) (v := .ref r1_6) (C := RX9) (T := TX9) (N := 9) hx hb hts zn_X5_readAnswer_X9 hown hK hP 1 rfl rfl 6 (of_decide_eq_true rfl) (hts (.fieldLink RX5 44 "ShortEnough$Task" "numbers" "LShortEnough$Numbers;") zw_X5_readAnswer_466) (fun _ h9 => h9) rfl dX5_readAnswer_51 ?_
      refine lv_iload_n hx hb dX5_readAnswer_54 rfl (lv_at hl 0 rfl) ?_
      refine lv_aload_n hx hb dX5_readAnswer_55 rfl (lv_at hl 1 rfl) ?_
      refine va_get (D := (dC, dI)) (ci := 5) (v := .int o_15.2.1) (C := RX5) (T := TX5) (N := 4) hx hb hts zn_X5_readAnswer_X5 hown hK hP 0 rfl rfl 1 (of_decide_eq_true rfl) (hts (.fieldLink RX5 102 "ShortEnough$Parser" "got" "I") zw_X5_readAnswer_476) (fun _ h9 => h9) rfl dX5_readAnswer_56 ?_
      obtain ⟨o_20, hqo_20, hfn⟩ := zb_s hfn
      refine zcVv (ci := 4) (rest := []) (pc' := 62) (ws' := [zV5 h0 r0_0 o_15.2.1 o_15.2.2.1 o_15.2.2.2.1, zV9 h1 v1_0 r1_1 r1_2 r1_3 r1_4 v1_5 r1_6 r1_7 r1_8, zV10 r0_0 r2_0 r2_1 v2_2 o_15.2.2.2.2.1 o_15.2.2.2.2.2.1 o_15.2.2.2.2.2.2.1 o_15.2.2.2.2.2.2.2.1 o_15.2.2.2.2.2.2.2.2, zV4 r1_6 v3_0 v3_1 r3_2 r3_3 r3_4 r3_5 r3_6 r3_7 r3_8 r3_9, zVi r3_2 k4 14 f4, zVi r2_1 k5 1200 f5, zVi r2_0 k6 13 f6, zVi r3_5 k7 14 o_20]) hP hK hD hS hA ⟨hx, hb, hml, hown, hts⟩ (zf_X4_allow l dC dI r1_6 o_5.2.1 o_15.2.1 v3_0 v3_1 r3_2 r3_3 r3_4 r3_5 r3_6 r3_7 r3_8 r3_9 k7 f7 o_20 hqo_20 H.size) (cwV 2 hts gX5_readAnswer_X4_allow rfl rfl rfl zhd_X4_allow ⟨Nat.le_of_ble_eq_true rfl, Nat.le_of_ble_eq_true rfl⟩) [3, 7] rfl (of_decide_eq_true rfl) [3] rfl rfl rfl rfl hl.1 rfl (Nat.le_of_ble_eq_true rfl) dX5_readAnswer_59 ⟨Nat.le_of_ble_eq_true rfl, Nat.le_of_ble_eq_true rfl⟩ [none, none, none, some 0, none, none, none, some 1] (of_decide_eq_true rfl) (of_decide_eq_true rfl) rfl rfl rfl (fun H locs hP hD hS => ?_)
      refine lv_iconst (v := 1) hx hb dX5_readAnswer_62 zci_1 ?_
      have ho := Option.some.inj hfn
      subst ho
      exact zrz hx hb hr rfl hK hP hD hS hQ ⟨rfl, zB1⟩ hlocks dX5_readAnswer_63
    have hfn := (if_pos c_19).symm.trans hfn
    refine lv_iconst (v := 0) hx hb dX5_readAnswer_48 zci_0 ?_
    have ho := Option.some.inj hfn
    subst ho
    exact zrz hx hb hr rfl hK hP hD hS hQ ⟨rfl, zB0⟩ hlocks dX5_readAnswer_49
  have hfn := (if_pos c_9).symm.trans hfn
  refine lv_iconst (v := 0) hx hb dX5_readAnswer_21 zci_0 ?_
  have ho := Option.some.inj hfn
  subst ho
  exact zrz hx hb hr rfl hK hP hD hS hQ ⟨rfl, zB0⟩ hlocks dX5_readAnswer_22
theorem zn_X5_readCast_X5 : ∀ w ∈ wsX50, w ∈ wsX5_readCast := fun _ h => List.mem_cons_of_mem _ (List.mem_append_left _ (List.mem_append_left _ (List.mem_append_right _ h)))
theorem zw_X5_readCast_479 : Cond.fieldLink RX5 102 "ShortEnough$Parser" "got" "I" ∈ wsX5_readCast := List.mem_of_getElem? (i := 1) (by decide +kernel)
theorem zn_X5_readCast_X9 : ∀ w ∈ wsX90, w ∈ wsX5_readCast := fun _ h => List.mem_cons_of_mem _ (List.mem_append_left _ (List.mem_append_right _ h))
theorem zw_X5_readCast_481 : Cond.fieldLink RX5 118 "ShortEnough$Task" "castPrice" "I" ∈ wsX5_readCast := List.mem_of_getElem? (i := 2) (by decide +kernel)
set_option maxHeartbeats 4000000 in
set_option maxRecDepth 100000 in
theorem zf_X5_readCast (l : Launch) (dC : Nat → ClassId) (dI : Nat → Nat → Nat) (h0 : Nat) (h1 : Nat) (r0_0 : Nat) (v0_1 : Int32) (v0_2 : Int32) (v0_3 : Int32) (r1_0 : Nat) (r1_1 : Nat) (v1_2 : Int32) (v1_3 : Int32) (v1_4 : Int32) (v1_5 : Int32) (v1_6 : Int32) (v1_7 : Int32) (k2 : Nat) (f2 : Nat → Int32) (k3 : Nat) (f3 : Nat → Int32) (v4_0 : Int32) (r4_1 : Nat) (r4_2 : Nat) (r4_3 : Nat) (r4_4 : Nat) (v4_5 : Int32) (r4_6 : Nat) (r4_7 : Nat) (r4_8 : Nat) (o : Int32 × Int32 × Int32 × Int32 × Int32 × Int32 × Int32 × Int32 × Int32 × Int32) (hfn : fn_X5_readCast v0_1 v0_2 v0_3 v1_2 v1_3 v1_4 v1_5 v1_6 v1_7 f2 f3 v4_5 = some o) (sz : Nat) : zMi l yX5_readCast wsX5_readCast ({ frames := 3, cells := 0, slots := 0, locals := 72 }) (dC, dI) vwCl [.ref h0, .ref h1] [zV5 h0 r0_0 v0_1 v0_2 v0_3, zV10 r0_0 r1_0 r1_1 v1_2 v1_3 v1_4 v1_5 v1_6 v1_7, zVi r1_1 k2 1200 f2, zVi r1_0 k3 13 f3, zV9 h1 v4_0 r4_1 r4_2 r4_3 r4_4 v4_5 r4_6 r4_7 r4_8] [(k2, .byte), (k3, .int)] (fun r _ => r = o.1 ∧ narrow .boolean (.int o.1) = .int o.1) [zV5 h0 r0_0 o.2.1 o.2.2.1 o.2.2.2.1, zV10 r0_0 r1_0 r1_1 v1_2 o.2.2.2.2.1 o.2.2.2.2.2.1 o.2.2.2.2.2.2.1 o.2.2.2.2.2.2.2.1 o.2.2.2.2.2.2.2.2.1, zVi r1_1 k2 1200 f2, zVi r1_0 k3 13 f3, zV9 h1 v4_0 r4_1 r4_2 r4_3 r4_4 o.2.2.2.2.2.2.2.2.2 r4_6 r4_7 r4_8] [(k2, .byte), (k3, .int)] sz := by
  refine zgoi (cc := cX5_readCast) (maxL := 2) (ret := (some .boolean)) (C0 := RX5) (lv0 := [(0, .ref h0), (1, .ref h1)]) zpl_X5 rfl rfl rfl (Nat.le_of_ble_eq_true rfl) ?_
  intro p e s m below meth c A ls Q hx hb hr hts hown hlocks hml hP hK hD hA hS hl hQ
  unfold fn_X5_readCast at hfn
  refine lv_aload_n hx hb dX5_readCast_0 rfl (lv_at hl 0 rfl) ?_
  refine lv_iconst (v := 0) hx hb dX5_readCast_1 zci_0 ?_
  refine lv_iconst (v := 0) hx hb dX5_readCast_2 zci_0 ?_
  refine lv_sipush (v := 999) hx hb dX5_readCast_3 zcs_999 ?_
  obtain ⟨o_1, hqo_1, hfn⟩ := zb_s hfn
  refine zcVb (ci := 5) (rest := []) (pc' := 9) (ws' := [zV5 h0 r0_0 o_1.2.1 o_1.2.2.1 o_1.2.2.2.1, zV10 r0_0 r1_0 r1_1 v1_2 o_1.2.2.2.2.1 o_1.2.2.2.2.2.1 o_1.2.2.2.2.2.2.1 o_1.2.2.2.2.2.2.2.1 o_1.2.2.2.2.2.2.2.2, zVi r1_1 k2 1200 f2, zVi r1_0 k3 13 f3, zV9 h1 v4_0 r4_1 r4_2 r4_3 r4_4 v4_5 r4_6 r4_7 r4_8]) hP hK hD hS hA ⟨hx, hb, hml, hown, hts⟩ (zf_X5_readValue l dC dI h0 0 0 999 r0_0 v0_1 v0_2 v0_3 r1_0 r1_1 v1_2 v1_3 v1_4 v1_5 v1_6 v1_7 k2 f2 k3 f3 o_1 hqo_1 s.heap.size) (cwV 3 hts gX5_readCast_X5_readValue rfl rfl rfl zhd_X5_readValue ⟨Nat.le_of_ble_eq_true rfl, Nat.le_of_ble_eq_true rfl⟩) [0, 1, 2, 3] rfl (of_decide_eq_true rfl) [0, 1] rfl rfl rfl rfl hl.1 rfl (Nat.le_of_ble_eq_true rfl) dX5_readCast_6 ⟨Nat.le_of_ble_eq_true rfl, Nat.le_of_ble_eq_true rfl⟩ [some 0, some 1, some 2, some 3] (of_decide_eq_true rfl) (of_decide_eq_true rfl) rfl rfl rfl (fun H locs hw_4n hP hD hS => ?_)
  refine lv_if_ne (tgt := 14) hx hb dX5_readCast_9 (of_decide_eq_true rfl) (fun c_5 => ?_) (fun c_5 => ?_)
  · have hfn := (if_neg c_5).symm.trans hfn
    refine lv_aload_n hx hb dX5_readCast_14 rfl (lv_at hl 1 rfl) ?_
    refine lv_aload_n hx hb dX5_readCast_15 rfl (lv_at hl 0 rfl) ?_
    refine va_get (D := (dC, dI)) (ci := 5) (v := .int o_1.2.1) (C := RX5) (T := TX5) (N := 4) hx hb hts zn_X5_readCast_X5 hown hK hP 0 rfl rfl 1 (of_decide_eq_true rfl) (hts (.fieldLink RX5 102 "ShortEnough$Parser" "got" "I") zw_X5_readCast_479) (fun _ h9 => h9) rfl dX5_readCast_16 ?_
    refine va_put (D := (dC, dI)) (ci := 9) (v := .int o_1.2.1) (ty := .int) (C := RX9) (T := TX9) (N := 9) hx hb hts zn_X5_readCast_X9 tyX9 tyX9_ok nmX9 hown hK hP hD hS 4 rfl rfl 5 (of_decide_eq_true rfl) (hts (.fieldLink RX5 118 "ShortEnough$Task" "castPrice" "I") zw_X5_readCast_481) (fun _ h9 => h9) rfl (tyX9_ok 5 (of_decide_eq_true rfl)) rfl rfl (Nat.le_of_ble_eq_true rfl) dX5_readCast_19 (fun H locs hP hD hS => ?_)
    have hP : va_P (dC, dI) vwCl [zV5 h0 r0_0 o_1.2.1 o_1.2.2.1 o_1.2.2.2.1, zV10 r0_0 r1_0 r1_1 v1_2 o_1.2.2.2.2.1 o_1.2.2.2.2.2.1 o_1.2.2.2.2.2.2.1 o_1.2.2.2.2.2.2.2.1 o_1.2.2.2.2.2.2.2.2, zVi r1_1 k2 1200 f2, zVi r1_0 k3 13 f3, zV9 h1 v4_0 r4_1 r4_2 r4_3 r4_4 o_1.2.1 r4_6 r4_7 r4_8] H := hP
    have hD := zDW hD hP rfl
    refine lv_iconst (v := 1) hx hb dX5_readCast_22 zci_1 ?_
    have ho := Option.some.inj hfn
    subst ho
    exact zrz hx hb hr rfl hK hP hD hS hQ ⟨rfl, zB1⟩ hlocks dX5_readCast_23
  have hfn := (if_pos c_5).symm.trans hfn
  refine lv_iconst (v := 0) hx hb dX5_readCast_12 zci_0 ?_
  have ho := Option.some.inj hfn
  subst ho
  exact zrz hx hb hr rfl hK hP hD hS hQ ⟨rfl, zB0⟩ hlocks dX5_readCast_13
theorem zn_X5_readBox_X5 : ∀ w ∈ wsX50, w ∈ wsX5_readBox := fun _ h => List.mem_cons_of_mem _ (List.mem_append_left _ (List.mem_append_left _ (List.mem_append_left _ (List.mem_append_right _ h))))
theorem zw_X5_readBox_483 : Cond.fieldLink RX5 102 "ShortEnough$Parser" "got" "I" ∈ wsX5_readBox := List.mem_of_getElem? (i := 1) (by decide +kernel)
theorem zw_X5_readBox_484 : Cond.constant RX5 121 (-10000000) ∈ wsX5_readBox := List.mem_of_getElem? (i := 2) (by decide +kernel)
theorem zw_X5_readBox_485 : Cond.constant RX5 122 (10000000) ∈ wsX5_readBox := List.mem_of_getElem? (i := 3) (by decide +kernel)
theorem zn_X5_readBox_X9 : ∀ w ∈ wsX90, w ∈ wsX5_readBox := fun _ h => List.mem_cons_of_mem _ (List.mem_append_left _ (List.mem_append_left _ (List.mem_append_right _ h)))
theorem zw_X5_readBox_487 : Cond.fieldLink RX5 44 "ShortEnough$Task" "numbers" "LShortEnough$Numbers;" ∈ wsX5_readBox := List.mem_of_getElem? (i := 4) (by decide +kernel)
set_option maxHeartbeats 4000000 in
set_option maxRecDepth 100000 in
theorem zf_X5_readBox (l : Launch) (dC : Nat → ClassId) (dI : Nat → Nat → Nat) (h0 : Nat) (h1 : Nat) (r0_0 : Nat) (v0_1 : Int32) (v0_2 : Int32) (v0_3 : Int32) (r1_0 : Nat) (r1_1 : Nat) (v1_2 : Int32) (v1_3 : Int32) (v1_4 : Int32) (v1_5 : Int32) (v1_6 : Int32) (v1_7 : Int32) (v2_0 : Int32) (r2_1 : Nat) (r2_2 : Nat) (r2_3 : Nat) (r2_4 : Nat) (v2_5 : Int32) (r2_6 : Nat) (r2_7 : Nat) (r2_8 : Nat) (k3 : Nat) (f3 : Nat → Int32) (v4_0 : Int32) (v4_1 : Int32) (r4_2 : Nat) (r4_3 : Nat) (r4_4 : Nat) (r4_5 : Nat) (r4_6 : Nat) (r4_7 : Nat) (r4_8 : Nat) (r4_9 : Nat) (k5 : Nat) (f5 : Nat → Int32) (k6 : Nat) (f6 : Nat → Int32) (k7 : Nat) (f7 : Nat → Int32) (k8 : Nat) (f8 : Nat → Int32) (k9 : Nat) (f9 : Nat → Int32) (k10 : Nat) (f10 : Nat → Int32) (k11 : Nat) (f11 : Nat → Int32) (k12 : Nat) (f12 : Nat → Int32) (k13 : Nat) (f13 : Nat → Int32) (k14 : Nat) (f14 : Nat → Int32) (o : Int32 × Int32 × Int32 × Int32 × Int32 × Int32 × Int32 × Int32 × Int32 × Int32 × Int32 × (Nat → Int32) × (Nat → Int32) × (Nat → Int32) × (Nat → Int32) × (Nat → Int32) × (Nat → Int32) × (Nat → Int32) × (Nat → Int32)) (hfn : fn_X5_readBox v0_1 v0_2 v0_3 v1_2 v1_3 v1_4 v1_5 v1_6 v1_7 v2_0 f3 v4_0 v4_1 f5 f6 f7 f8 f9 f10 f11 f12 f13 f14 = some o) (sz : Nat) : zMi l yX5_readBox wsX5_readBox ({ frames := 3, cells := 0, slots := 0, locals := 72 }) (dC, dI) vwCl [.ref h0, .ref h1] [zV5 h0 r0_0 v0_1 v0_2 v0_3, zV10 r0_0 r1_0 r1_1 v1_2 v1_3 v1_4 v1_5 v1_6 v1_7, zV9 h1 v2_0 r2_1 r2_2 r2_3 r2_4 v2_5 r2_6 r2_7 r2_8, zVi r2_1 k3 4 f3, zV4 r2_6 v4_0 v4_1 r4_2 r4_3 r4_4 r4_5 r4_6 r4_7 r4_8 r4_9, zVi r4_2 k5 14 f5, zVi r1_1 k6 1200 f6, zVi r1_0 k7 13 f7, zVi r4_8 k8 28 f8, zVi r4_9 k9 28 f9, zVi r4_3 k10 14 f10, zVi r4_4 k11 14 f11, zVi r4_5 k12 14 f12, zVi r4_7 k13 14 f13, zVi r4_6 k14 14 f14] [(k3, .int), (k5, .int), (k6, .byte), (k7, .int), (k8, .int), (k9, .int), (k10, .int), (k11, .int), (k12, .int), (k13, .int), (k14, .int)] (fun r _ => r = o.1 ∧ narrow .boolean (.int o.1) = .int o.1) [zV5 h0 r0_0 o.2.1 o.2.2.1 o.2.2.2.1, zV10 r0_0 r1_0 r1_1 v1_2 o.2.2.2.2.1 o.2.2.2.2.2.1 o.2.2.2.2.2.2.1 o.2.2.2.2.2.2.2.1 o.2.2.2.2.2.2.2.2.1, zV9 h1 v2_0 r2_1 r2_2 r2_3 r2_4 v2_5 r2_6 r2_7 r2_8, zVi r2_1 k3 4 f3, zV4 r2_6 o.2.2.2.2.2.2.2.2.2.1 o.2.2.2.2.2.2.2.2.2.2.1 r4_2 r4_3 r4_4 r4_5 r4_6 r4_7 r4_8 r4_9, zVi r4_2 k5 14 o.2.2.2.2.2.2.2.2.2.2.2.1, zVi r1_1 k6 1200 f6, zVi r1_0 k7 13 f7, zVi r4_8 k8 28 o.2.2.2.2.2.2.2.2.2.2.2.2.1, zVi r4_9 k9 28 o.2.2.2.2.2.2.2.2.2.2.2.2.2.1, zVi r4_3 k10 14 o.2.2.2.2.2.2.2.2.2.2.2.2.2.2.1, zVi r4_4 k11 14 o.2.2.2.2.2.2.2.2.2.2.2.2.2.2.2.1, zVi r4_5 k12 14 o.2.2.2.2.2.2.2.2.2.2.2.2.2.2.2.2.1, zVi r4_7 k13 14 o.2.2.2.2.2.2.2.2.2.2.2.2.2.2.2.2.2.1, zVi r4_6 k14 14 o.2.2.2.2.2.2.2.2.2.2.2.2.2.2.2.2.2.2] [(k3, .int), (k5, .int), (k6, .byte), (k7, .int), (k8, .int), (k9, .int), (k10, .int), (k11, .int), (k12, .int), (k13, .int), (k14, .int)] sz := by
  refine zgoi (cc := cX5_readBox) (maxL := 4) (ret := (some .boolean)) (C0 := RX5) (lv0 := [(0, .ref h0), (1, .ref h1)]) zpl_X5 rfl rfl rfl (Nat.le_of_ble_eq_true rfl) ?_
  intro p e s m below meth c A ls Q hx hb hr hts hown hlocks hml hP hK hD hA hS hl hQ
  unfold fn_X5_readBox at hfn
  refine lv_aload_n hx hb dX5_readBox_0 rfl (lv_at hl 0 rfl) ?_
  refine lv_aload_n hx hb dX5_readBox_1 rfl (lv_at hl 1 rfl) ?_
  obtain ⟨o_1, hqo_1, hfn⟩ := zb_s hfn
  refine zcVb (ci := 5) (rest := []) (pc' := 5) (ws' := [zV5 h0 r0_0 o_1.2.1 o_1.2.2.1 o_1.2.2.2.1, zV10 r0_0 r1_0 r1_1 v1_2 o_1.2.2.2.2.1 o_1.2.2.2.2.2.1 o_1.2.2.2.2.2.2.1 o_1.2.2.2.2.2.2.2.1 o_1.2.2.2.2.2.2.2.2, zV9 h1 v2_0 r2_1 r2_2 r2_3 r2_4 v2_5 r2_6 r2_7 r2_8, zVi r2_1 k3 4 f3, zV4 r2_6 v4_0 v4_1 r4_2 r4_3 r4_4 r4_5 r4_6 r4_7 r4_8 r4_9, zVi r4_2 k5 14 f5, zVi r1_1 k6 1200 f6, zVi r1_0 k7 13 f7, zVi r4_8 k8 28 f8, zVi r4_9 k9 28 f9, zVi r4_3 k10 14 f10, zVi r4_4 k11 14 f11, zVi r4_5 k12 14 f12, zVi r4_7 k13 14 f13, zVi r4_6 k14 14 f14]) hP hK hD hS hA ⟨hx, hb, hml, hown, hts⟩ (zf_X5_readNewName l dC dI h0 h1 r0_0 v0_1 v0_2 v0_3 r1_0 r1_1 v1_2 v1_3 v1_4 v1_5 v1_6 v1_7 v2_0 r2_1 r2_2 r2_3 r2_4 v2_5 r2_6 r2_7 r2_8 k3 f3 v4_0 v4_1 r4_2 r4_3 r4_4 r4_5 r4_6 r4_7 r4_8 r4_9 k5 f5 k6 f6 k7 f7 o_1 hqo_1 s.heap.size) (cwV 1 hts gX5_readBox_X5_readNewName rfl rfl rfl zhd_X5_readNewName ⟨Nat.le_of_ble_eq_true rfl, Nat.le_of_ble_eq_true rfl⟩) [0, 1, 2, 3, 4, 5, 6, 7] rfl (of_decide_eq_true rfl) [0, 1, 2, 3] rfl rfl rfl rfl hl.1 rfl (Nat.le_of_ble_eq_true rfl) dX5_readBox_2 ⟨Nat.le_of_ble_eq_true rfl, Nat.le_of_ble_eq_true rfl⟩ [some 0, some 1, some 2, some 3, some 4, some 5, some 6, some 7] (of_decide_eq_true rfl) (of_decide_eq_true rfl) rfl rfl rfl (fun H locs hw_4n hP hD hS => ?_)
  refine lv_if_ne (tgt := 10) hx hb dX5_readBox_5 (of_decide_eq_true rfl) (fun c_5 => ?_) (fun c_5 => ?_)
  · have hfn := (if_neg c_5).symm.trans hfn
    refine lv_aload_n hx hb dX5_readBox_10 rfl (lv_at hl 0 rfl) ?_
    refine va_get (D := (dC, dI)) (ci := 5) (v := .int o_1.2.1) (C := RX5) (T := TX5) (N := 4) hx hb hts zn_X5_readBox_X5 hown hK hP 0 rfl rfl 1 (of_decide_eq_true rfl) (hts (.fieldLink RX5 102 "ShortEnough$Parser" "got" "I") zw_X5_readBox_483) (fun _ h9 => h9) rfl dX5_readBox_11 ?_
    refine lv_istore_n (lv' := [(2, .int o_1.2.1), (0, .ref h0), (1, .ref h1)]) hx hb dX5_readBox_14 rfl hl (of_decide_eq_true rfl) rfl (fun ls hl => ?_)
    refine lv_aload_n hx hb dX5_readBox_15 rfl (lv_at hl 1 rfl) ?_
    refine lv_iconst (v := 1) hx hb dX5_readBox_16 zci_1 ?_
    refine lv_ldc (v := (-10000000)) hx hb hown (hts (.constant RX5 121 (-10000000)) zw_X5_readBox_484) dX5_readBox_17 ?_
    refine lv_ldc (v := 10000000) hx hb hown (hts (.constant RX5 122 (10000000)) zw_X5_readBox_485) dX5_readBox_19 ?_
    obtain ⟨o_6, hqo_6, hfn⟩ := zb_s hfn
    refine zcVb (ci := 5) (rest := []) (pc' := 24) (ws' := [zV5 h0 r0_0 o_6.2.1 o_6.2.2.1 o_6.2.2.2.1, zV10 r0_0 r1_0 r1_1 v1_2 o_6.2.2.2.2.1 o_6.2.2.2.2.2.1 o_6.2.2.2.2.2.2.1 o_6.2.2.2.2.2.2.2.1 o_6.2.2.2.2.2.2.2.2, zV9 h1 v2_0 r2_1 r2_2 r2_3 r2_4 v2_5 r2_6 r2_7 r2_8, zVi r2_1 k3 4 f3, zV4 r2_6 v4_0 v4_1 r4_2 r4_3 r4_4 r4_5 r4_6 r4_7 r4_8 r4_9, zVi r4_2 k5 14 f5, zVi r1_1 k6 1200 f6, zVi r1_0 k7 13 f7, zVi r4_8 k8 28 f8, zVi r4_9 k9 28 f9, zVi r4_3 k10 14 f10, zVi r4_4 k11 14 f11, zVi r4_5 k12 14 f12, zVi r4_7 k13 14 f13, zVi r4_6 k14 14 f14]) hP hK hD hS hA ⟨hx, hb, hml, hown, hts⟩ (zf_X5_readValue l dC dI h0 1 (-10000000) 10000000 r0_0 o_1.2.1 o_1.2.2.1 o_1.2.2.2.1 r1_0 r1_1 v1_2 o_1.2.2.2.2.1 o_1.2.2.2.2.2.1 o_1.2.2.2.2.2.2.1 o_1.2.2.2.2.2.2.2.1 o_1.2.2.2.2.2.2.2.2 k6 f6 k7 f7 o_6 hqo_6 H.size) (cwV 3 hts gX5_readBox_X5_readValue rfl rfl rfl zhd_X5_readValue ⟨Nat.le_of_ble_eq_true rfl, Nat.le_of_ble_eq_true rfl⟩) [0, 1, 6, 7] rfl (of_decide_eq_true rfl) [2, 3] rfl rfl rfl rfl hl.1 rfl (Nat.le_of_ble_eq_true rfl) dX5_readBox_21 ⟨Nat.le_of_ble_eq_true rfl, Nat.le_of_ble_eq_true rfl⟩ [some 0, some 1, none, none, none, none, some 2, some 3] (of_decide_eq_true rfl) (of_decide_eq_true rfl) rfl rfl rfl (fun H locs hw_9n hP hD hS => ?_)
    refine lv_if_ne (tgt := 29) hx hb dX5_readBox_24 (of_decide_eq_true rfl) (fun c_10 => ?_) (fun c_10 => ?_)
    · have hfn := (if_neg c_10).symm.trans hfn
      refine lv_aload_n hx hb dX5_readBox_29 rfl (lv_at hl 1 rfl) ?_
      refine va_get (D := (dC, dI)) (ci := 5) (v := .int o_6.2.1) (C := RX5) (T := TX5) (N := 4) hx hb hts zn_X5_readBox_X5 hown hK hP 0 rfl rfl 1 (of_decide_eq_true rfl) (hts (.fieldLink RX5 102 "ShortEnough$Parser" "got" "I") zw_X5_readBox_483) (fun _ h9 => h9) rfl dX5_readBox_30 ?_
      refine lv_istore_n (lv' := [(3, .int o_6.2.1), (2, .int o_1.2.1), (0, .ref h0), (1, .ref h1)]) hx hb dX5_readBox_33 rfl hl (of_decide_eq_true rfl) rfl (fun ls hl => ?_)
      refine lv_aload_n hx hb dX5_readBox_34 rfl (lv_at hl 2 rfl) ?_
      refine lv_iconst (v := 1) hx hb dX5_readBox_35 zci_1 ?_
      refine lv_iload_n hx hb dX5_readBox_36 rfl (lv_at hl 0 rfl) ?_
      refine lv_ldc (v := 10000000) hx hb hown (hts (.constant RX5 122 (10000000)) zw_X5_readBox_485) dX5_readBox_37 ?_
      obtain ⟨o_11, hqo_11, hfn⟩ := zb_s hfn
      refine zcVb (ci := 5) (rest := []) (pc' := 42) (ws' := [zV5 h0 r0_0 o_11.2.1 o_11.2.2.1 o_11.2.2.2.1, zV10 r0_0 r1_0 r1_1 v1_2 o_11.2.2.2.2.1 o_11.2.2.2.2.2.1 o_11.2.2.2.2.2.2.1 o_11.2.2.2.2.2.2.2.1 o_11.2.2.2.2.2.2.2.2, zV9 h1 v2_0 r2_1 r2_2 r2_3 r2_4 v2_5 r2_6 r2_7 r2_8, zVi r2_1 k3 4 f3, zV4 r2_6 v4_0 v4_1 r4_2 r4_3 r4_4 r4_5 r4_6 r4_7 r4_8 r4_9, zVi r4_2 k5 14 f5, zVi r1_1 k6 1200 f6, zVi r1_0 k7 13 f7, zVi r4_8 k8 28 f8, zVi r4_9 k9 28 f9, zVi r4_3 k10 14 f10, zVi r4_4 k11 14 f11, zVi r4_5 k12 14 f12, zVi r4_7 k13 14 f13, zVi r4_6 k14 14 f14]) hP hK hD hS hA ⟨hx, hb, hml, hown, hts⟩ (zf_X5_readValue l dC dI h0 1 o_6.2.1 10000000 r0_0 o_6.2.1 o_6.2.2.1 o_6.2.2.2.1 r1_0 r1_1 v1_2 o_6.2.2.2.2.1 o_6.2.2.2.2.2.1 o_6.2.2.2.2.2.2.1 o_6.2.2.2.2.2.2.2.1 o_6.2.2.2.2.2.2.2.2 k6 f6 k7 f7 o_11 hqo_11 H.size) (cwV 3 hts gX5_readBox_X5_readValue rfl rfl rfl zhd_X5_readValue ⟨Nat.le_of_ble_eq_true rfl, Nat.le_of_ble_eq_true rfl⟩) [0, 1, 6, 7] rfl (of_decide_eq_true rfl) [2, 3] rfl rfl rfl rfl hl.1 rfl (Nat.le_of_ble_eq_true rfl) dX5_readBox_39 ⟨Nat.le_of_ble_eq_true rfl, Nat.le_of_ble_eq_true rfl⟩ [some 0, some 1, none, none, none, none, some 2, some 3] (of_decide_eq_true rfl) (of_decide_eq_true rfl) rfl rfl rfl (fun H locs hw_14n hP hD hS => ?_)
      refine lv_if_ne (tgt := 47) hx hb dX5_readBox_42 (of_decide_eq_true rfl) (fun c_15 => ?_) (fun c_15 => ?_)
      · have hfn := (if_neg c_15).symm.trans hfn
        refine lv_aload_n hx hb dX5_readBox_47 rfl (lv_at hl 3 rfl) ?_
        refine va_get (D := (dC, dI)) (ci := 9) (v := .ref r2_6) (C := RX9) (T := TX9) (N := 9) hx hb hts zn_X5_readBox_X9 hown hK hP 2 rfl rfl 6 (of_decide_eq_true rfl) (hts (.fieldLink RX5 44 "ShortEnough$Task" "numbers" "LShortEnough$Numbers;") zw_X5_readBox_487) (fun _ h9 => h9) rfl dX5_readBox_48 ?_
        refine lv_iconst (v := 0) hx hb dX5_readBox_51 zci_0 ?_
        refine lv_iconst (v := (-1)) hx hb dX5_readBox_52 zci_m1 ?_
        refine lv_iload_n hx hb dX5_readBox_53 rfl (lv_at hl 0 rfl) ?_
        obtain ⟨o_16, hqo_16, hfn⟩ := zb_s hfn
        refine zcVv (ci := 4) (rest := []) (pc' := 57) (ws' := [zV5 h0 r0_0 o_11.2.1 o_11.2.2.1 o_11.2.2.2.1, zV10 r0_0 r1_0 r1_1 v1_2 o_11.2.2.2.2.1 o_11.2.2.2.2.2.1 o_11.2.2.2.2.2.2.1 o_11.2.2.2.2.2.2.2.1 o_11.2.2.2.2.2.2.2.2, zV9 h1 v2_0 r2_1 r2_2 r2_3 r2_4 v2_5 r2_6 r2_7 r2_8, zVi r2_1 k3 4 f3, zV4 r2_6 v4_0 v4_1 r4_2 r4_3 r4_4 r4_5 r4_6 r4_7 r4_8 r4_9, zVi r4_2 k5 14 f5, zVi r1_1 k6 1200 f6, zVi r1_0 k7 13 f7, zVi r4_8 k8 28 o_16.1, zVi r4_9 k9 28 o_16.2, zVi r4_3 k10 14 f10, zVi r4_4 k11 14 f11, zVi r4_5 k12 14 f12, zVi r4_7 k13 14 f13, zVi r4_6 k14 14 f14]) hP hK hD hS hA ⟨hx, hb, hml, hown, hts⟩ (zf_X4_prepare l dC dI r2_6 0 (-1) o_6.2.1 v4_0 v4_1 r4_2 r4_3 r4_4 r4_5 r4_6 r4_7 r4_8 r4_9 k8 f8 k9 f9 o_16 hqo_16 H.size) (cwV 3 hts gX5_readBox_X4_prepare rfl rfl rfl zhd_X4_prepare ⟨Nat.le_of_ble_eq_true rfl, Nat.le_of_ble_eq_true rfl⟩) [4, 8, 9] rfl (of_decide_eq_true rfl) [4, 5] rfl rfl rfl rfl hl.1 rfl (Nat.le_of_ble_eq_true rfl) dX5_readBox_54 ⟨Nat.le_of_ble_eq_true rfl, Nat.le_of_ble_eq_true rfl⟩ [none, none, none, none, some 0, none, none, none, some 1, some 2] (of_decide_eq_true rfl) (of_decide_eq_true rfl) rfl rfl rfl (fun H locs hP hD hS => ?_)
        refine lv_aload_n hx hb dX5_readBox_57 rfl (lv_at hl 3 rfl) ?_
        refine va_get (D := (dC, dI)) (ci := 9) (v := .ref r2_6) (C := RX9) (T := TX9) (N := 9) hx hb hts zn_X5_readBox_X9 hown hK hP 2 rfl rfl 6 (of_decide_eq_true rfl) (hts (.fieldLink RX5 44 "ShortEnough$Task" "numbers" "LShortEnough$Numbers;") zw_X5_readBox_487) (fun _ h9 => h9) rfl dX5_readBox_58 ?_
        refine lv_iconst (v := 1) hx hb dX5_readBox_61 zci_1 ?_
        refine lv_iconst (v := (-1)) hx hb dX5_readBox_62 zci_m1 ?_
        refine lv_aload_n hx hb dX5_readBox_63 rfl (lv_at hl 2 rfl) ?_
        refine va_get (D := (dC, dI)) (ci := 5) (v := .int o_11.2.1) (C := RX5) (T := TX5) (N := 4) hx hb hts zn_X5_readBox_X5 hown hK hP 0 rfl rfl 1 (of_decide_eq_true rfl) (hts (.fieldLink RX5 102 "ShortEnough$Parser" "got" "I") zw_X5_readBox_483) (fun _ h9 => h9) rfl dX5_readBox_64 ?_
        obtain ⟨o_20, hqo_20, hfn⟩ := zb_s hfn
        refine zcVv (ci := 4) (rest := []) (pc' := 70) (ws' := [zV5 h0 r0_0 o_11.2.1 o_11.2.2.1 o_11.2.2.2.1, zV10 r0_0 r1_0 r1_1 v1_2 o_11.2.2.2.2.1 o_11.2.2.2.2.2.1 o_11.2.2.2.2.2.2.1 o_11.2.2.2.2.2.2.2.1 o_11.2.2.2.2.2.2.2.2, zV9 h1 v2_0 r2_1 r2_2 r2_3 r2_4 v2_5 r2_6 r2_7 r2_8, zVi r2_1 k3 4 f3, zV4 r2_6 v4_0 v4_1 r4_2 r4_3 r4_4 r4_5 r4_6 r4_7 r4_8 r4_9, zVi r4_2 k5 14 f5, zVi r1_1 k6 1200 f6, zVi r1_0 k7 13 f7, zVi r4_8 k8 28 o_20.1, zVi r4_9 k9 28 o_20.2, zVi r4_3 k10 14 f10, zVi r4_4 k11 14 f11, zVi r4_5 k12 14 f12, zVi r4_7 k13 14 f13, zVi r4_6 k14 14 f14]) hP hK hD hS hA ⟨hx, hb, hml, hown, hts⟩ (zf_X4_prepare l dC dI r2_6 1 (-1) o_11.2.1 v4_0 v4_1 r4_2 r4_3 r4_4 r4_5 r4_6 r4_7 r4_8 r4_9 k8 o_16.1 k9 o_16.2 o_20 hqo_20 H.size) (cwV 3 hts gX5_readBox_X4_prepare rfl rfl rfl zhd_X4_prepare ⟨Nat.le_of_ble_eq_true rfl, Nat.le_of_ble_eq_true rfl⟩) [4, 8, 9] rfl (of_decide_eq_true rfl) [4, 5] rfl rfl rfl rfl hl.1 rfl (Nat.le_of_ble_eq_true rfl) dX5_readBox_67 ⟨Nat.le_of_ble_eq_true rfl, Nat.le_of_ble_eq_true rfl⟩ [none, none, none, none, some 0, none, none, none, some 1, some 2] (of_decide_eq_true rfl) (of_decide_eq_true rfl) rfl rfl rfl (fun H locs hP hD hS => ?_)
        refine lv_aload_n hx hb dX5_readBox_70 rfl (lv_at hl 3 rfl) ?_
        refine va_get (D := (dC, dI)) (ci := 9) (v := .ref r2_6) (C := RX9) (T := TX9) (N := 9) hx hb hts zn_X5_readBox_X9 hown hK hP 2 rfl rfl 6 (of_decide_eq_true rfl) (hts (.fieldLink RX5 44 "ShortEnough$Task" "numbers" "LShortEnough$Numbers;") zw_X5_readBox_487) (fun _ h9 => h9) rfl dX5_readBox_71 ?_
        refine lv_iload_n hx hb dX5_readBox_74 rfl (lv_at hl 1 rfl) ?_
        refine lv_iconst (v := 0) hx hb dX5_readBox_75 zci_0 ?_
        obtain ⟨o_24, hqo_24, hfn⟩ := zb_s hfn
        refine zcVv (ci := 4) (rest := []) (pc' := 79) (ws' := [zV5 h0 r0_0 o_11.2.1 o_11.2.2.1 o_11.2.2.2.1, zV10 r0_0 r1_0 r1_1 v1_2 o_11.2.2.2.2.1 o_11.2.2.2.2.2.1 o_11.2.2.2.2.2.2.1 o_11.2.2.2.2.2.2.2.1 o_11.2.2.2.2.2.2.2.2, zV9 h1 v2_0 r2_1 r2_2 r2_3 r2_4 v2_5 r2_6 r2_7 r2_8, zVi r2_1 k3 4 f3, zV4 r2_6 o_24.1 o_24.2.1 r4_2 r4_3 r4_4 r4_5 r4_6 r4_7 r4_8 r4_9, zVi r4_2 k5 14 o_24.2.2.1, zVi r1_1 k6 1200 f6, zVi r1_0 k7 13 f7, zVi r4_8 k8 28 o_20.1, zVi r4_9 k9 28 o_20.2, zVi r4_3 k10 14 o_24.2.2.2.1, zVi r4_4 k11 14 o_24.2.2.2.2.1, zVi r4_5 k12 14 o_24.2.2.2.2.2.1, zVi r4_7 k13 14 o_24.2.2.2.2.2.2.1, zVi r4_6 k14 14 o_24.2.2.2.2.2.2.2]) hP hK hD hS hA ⟨hx, hb, hml, hown, hts⟩ (zf_X4_add l dC dI r2_6 o_1.2.1 0 v4_0 v4_1 r4_2 r4_3 r4_4 r4_5 r4_6 r4_7 r4_8 r4_9 k5 f5 k10 f10 k11 f11 k12 f12 k13 f13 k8 o_20.1 k14 f14 o_24 hqo_24 H.size) (cwV 2 hts gX5_readBox_X4_add rfl rfl rfl zhd_X4_add ⟨Nat.le_of_ble_eq_true rfl, Nat.le_of_ble_eq_true rfl⟩) [4, 5, 10, 11, 12, 13, 8, 14] rfl (of_decide_eq_true rfl) [1, 6, 7, 8, 9, 4, 10] rfl rfl rfl rfl hl.1 rfl (Nat.le_of_ble_eq_true rfl) dX5_readBox_76 ⟨Nat.le_of_ble_eq_true rfl, Nat.le_of_ble_eq_true rfl⟩ [none, none, none, none, some 0, some 1, none, none, some 6, none, some 2, some 3, some 4, some 5, some 7] (of_decide_eq_true rfl) (of_decide_eq_true rfl) rfl rfl rfl (fun H locs hP hD hS => ?_)
        refine lv_iconst (v := 1) hx hb dX5_readBox_79 zci_1 ?_
        have ho := Option.some.inj hfn
        subst ho
        exact zrz hx hb hr rfl hK hP hD hS hQ ⟨rfl, zB1⟩ hlocks dX5_readBox_80
      have hfn := (if_pos c_15).symm.trans hfn
      refine lv_iconst (v := 0) hx hb dX5_readBox_45 zci_0 ?_
      have ho := Option.some.inj hfn
      subst ho
      exact zrz hx hb hr rfl hK hP hD hS hQ ⟨rfl, zB0⟩ hlocks dX5_readBox_46
    have hfn := (if_pos c_10).symm.trans hfn
    refine lv_iconst (v := 0) hx hb dX5_readBox_27 zci_0 ?_
    have ho := Option.some.inj hfn
    subst ho
    exact zrz hx hb hr rfl hK hP hD hS hQ ⟨rfl, zB0⟩ hlocks dX5_readBox_28
  have hfn := (if_pos c_5).symm.trans hfn
  refine lv_iconst (v := 0) hx hb dX5_readBox_8 zci_0 ?_
  have ho := Option.some.inj hfn
  subst ho
  exact zrz hx hb hr rfl hK hP hD hS hQ ⟨rfl, zB0⟩ hlocks dX5_readBox_9
theorem zn_X5_readSign_X5 : ∀ w ∈ wsX50, w ∈ wsX5_readSign := fun _ h => List.mem_cons_of_mem _ (List.mem_append_left _ (List.mem_append_right _ h))
theorem zw_X5_readSign_491 : Cond.fieldLink RX5 12 "ShortEnough$Parser" "words" "LShortEnough$Words;" ∈ wsX5_readSign := List.mem_of_getElem? (i := 1) (by decide +kernel)
theorem zn_X5_readSign_X10 : ∀ w ∈ wsX100, w ∈ wsX5_readSign := fun _ h => List.mem_cons_of_mem _ (List.mem_append_right _ h)
theorem zw_X5_readSign_493 : Cond.fieldLink RX5 64 "ShortEnough$Words" "start" "I" ∈ wsX5_readSign := List.mem_of_getElem? (i := 2) (by decide +kernel)
set_option maxHeartbeats 4000000 in
set_option maxRecDepth 100000 in
theorem zf_X5_readSign (l : Launch) (dC : Nat → ClassId) (dI : Nat → Nat → Nat) (h0 : Nat) (p1 : Int32) (r0_0 : Nat) (v0_1 : Int32) (v0_2 : Int32) (v0_3 : Int32) (r1_0 : Nat) (r1_1 : Nat) (v1_2 : Int32) (v1_3 : Int32) (v1_4 : Int32) (v1_5 : Int32) (v1_6 : Int32) (v1_7 : Int32) (k2 : Nat) (f2 : Nat → Int32) (k3 : Nat) (f3 : Nat → Int32) (o : Int32 × Int32 × Int32 × Int32 × Int32 × Int32 × Int32 × Int32) (hfn : fn_X5_readSign p1 v0_2 v0_3 v1_2 v1_3 v1_4 v1_5 v1_6 v1_7 f2 f3 = some o) (sz : Nat) : zMi l yX5_readSign wsX5_readSign ({ frames := 2, cells := 0, slots := 0, locals := 46 }) (dC, dI) vwCl [.ref h0, .int p1] [zV5 h0 r0_0 v0_1 v0_2 v0_3, zV10 r0_0 r1_0 r1_1 v1_2 v1_3 v1_4 v1_5 v1_6 v1_7, zVi r1_1 k2 1200 f2, zVi r1_0 k3 13 f3] [(k2, .byte), (k3, .int)] (fun r _ => r = o.1 ∧ narrow .boolean (.int o.1) = .int o.1) [zV5 h0 r0_0 v0_1 o.2.1 o.2.2.1, zV10 r0_0 r1_0 r1_1 v1_2 o.2.2.2.1 o.2.2.2.2.1 o.2.2.2.2.2.1 o.2.2.2.2.2.2.1 o.2.2.2.2.2.2.2, zVi r1_1 k2 1200 f2, zVi r1_0 k3 13 f3] [(k2, .byte), (k3, .int)] sz := by
  refine zgoi (cc := cX5_readSign) (maxL := 2) (ret := (some .boolean)) (C0 := RX5) (lv0 := [(0, .ref h0), (1, .int p1)]) zpl_X5 rfl rfl rfl (Nat.le_of_ble_eq_true rfl) ?_
  intro p e s m below meth c A ls Q hx hb hr hts hown hlocks hml hP hK hD hA hS hl hQ
  unfold fn_X5_readSign at hfn
  refine lv_aload_n hx hb dX5_readSign_0 rfl (lv_at hl 0 rfl) ?_
  refine va_get (D := (dC, dI)) (ci := 5) (v := .ref r0_0) (C := RX5) (T := TX5) (N := 4) hx hb hts zn_X5_readSign_X5 hown hK hP 0 rfl rfl 0 (of_decide_eq_true rfl) (hts (.fieldLink RX5 12 "ShortEnough$Parser" "words" "LShortEnough$Words;") zw_X5_readSign_491) (fun _ h9 => h9) rfl dX5_readSign_1 ?_
  refine lv_iload_n hx hb dX5_readSign_4 rfl (lv_at hl 1 rfl) ?_
  obtain ⟨o_1, hqo_1, hfn⟩ := zb_s hfn
  refine zcVb (ci := 10) (rest := []) (pc' := 8) (ws' := [zV5 h0 r0_0 v0_1 v0_2 v0_3, zV10 r0_0 r1_0 r1_1 v1_2 v1_3 v1_4 v1_5 v1_6 v1_7, zVi r1_1 k2 1200 f2, zVi r1_0 k3 13 f3]) hP hK hD hS hA ⟨hx, hb, hml, hown, hts⟩ (zf_X10_isSign l dC dI r0_0 p1 r1_0 r1_1 v1_2 v1_3 v1_4 v1_5 v1_6 v1_7 o_1 hqo_1 s.heap.size) (cwV 1 hts gX5_readSign_X10_isSign rfl rfl rfl zhd_X10_isSign ⟨Nat.le_of_ble_eq_true rfl, Nat.le_of_ble_eq_true rfl⟩) [1] rfl (of_decide_eq_true rfl) [] rfl rfl rfl rfl hl.1 rfl (Nat.le_of_ble_eq_true rfl) dX5_readSign_5 ⟨Nat.le_of_ble_eq_true rfl, Nat.le_of_ble_eq_true rfl⟩ [none, some 0] (of_decide_eq_true rfl) (of_decide_eq_true rfl) rfl rfl rfl (fun H locs hw_4n hP hD hS => ?_)
  refine lv_if_ne (tgt := 24) hx hb dX5_readSign_8 (of_decide_eq_true rfl) (fun c_5 => ?_) (fun c_5 => ?_)
  · have hfn := (if_neg c_5).symm.trans hfn
    refine lv_aload_n hx hb dX5_readSign_24 rfl (lv_at hl 0 rfl) ?_
    refine va_get (D := (dC, dI)) (ci := 5) (v := .ref r0_0) (C := RX5) (T := TX5) (N := 4) hx hb hts zn_X5_readSign_X5 hown hK hP 0 rfl rfl 0 (of_decide_eq_true rfl) (hts (.fieldLink RX5 12 "ShortEnough$Parser" "words" "LShortEnough$Words;") zw_X5_readSign_491) (fun _ h9 => h9) rfl dX5_readSign_25 ?_
    obtain ⟨o_6, hqo_6, hfn⟩ := zb_s hfn
    refine zcVv (ci := 10) (rest := []) (pc' := 31) (ws' := [zV5 h0 r0_0 v0_1 v0_2 v0_3, zV10 r0_0 r1_0 r1_1 v1_2 o_6.1 o_6.2.1 o_6.2.2.1 o_6.2.2.2.1 o_6.2.2.2.2, zVi r1_1 k2 1200 f2, zVi r1_0 k3 13 f3]) hP hK hD hS hA ⟨hx, hb, hml, hown, hts⟩ (zf_X10_advance l dC dI r0_0 r1_0 r1_1 v1_2 v1_3 v1_4 v1_5 v1_6 v1_7 k2 f2 k3 f3 o_6 hqo_6 H.size) (cwV 0 hts gX5_readSign_X10_advance rfl rfl rfl zhd_X10_advance ⟨Nat.le_of_ble_eq_true rfl, Nat.le_of_ble_eq_true rfl⟩) [1, 2, 3] rfl (of_decide_eq_true rfl) [0, 1] rfl rfl rfl rfl hl.1 rfl (Nat.le_of_ble_eq_true rfl) dX5_readSign_28 ⟨Nat.le_of_ble_eq_true rfl, Nat.le_of_ble_eq_true rfl⟩ [none, some 0, some 1, some 2] (of_decide_eq_true rfl) (of_decide_eq_true rfl) rfl rfl rfl (fun H locs hP hD hS => ?_)
    refine lv_iconst (v := 1) hx hb dX5_readSign_31 zci_1 ?_
    have ho := Option.some.inj hfn
    subst ho
    exact zrz hx hb hr rfl hK hP hD hS hQ ⟨rfl, zB1⟩ hlocks dX5_readSign_32
  have hfn := (if_pos c_5).symm.trans hfn
  refine lv_aload_n hx hb dX5_readSign_11 rfl (lv_at hl 0 rfl) ?_
  refine lv_iconst (v := 1) hx hb dX5_readSign_12 zci_1 ?_
  refine lv_aload_n hx hb dX5_readSign_13 rfl (lv_at hl 0 rfl) ?_
  refine va_get (D := (dC, dI)) (ci := 5) (v := .ref r0_0) (C := RX5) (T := TX5) (N := 4) hx hb hts zn_X5_readSign_X5 hown hK hP 0 rfl rfl 0 (of_decide_eq_true rfl) (hts (.fieldLink RX5 12 "ShortEnough$Parser" "words" "LShortEnough$Words;") zw_X5_readSign_491) (fun _ h9 => h9) rfl dX5_readSign_14 ?_
  refine va_get (D := (dC, dI)) (ci := 10) (v := .int v1_5) (C := RX10) (T := TX10) (N := 8) hx hb hts zn_X5_readSign_X10 hown hK hP 1 rfl rfl 5 (of_decide_eq_true rfl) (hts (.fieldLink RX5 64 "ShortEnough$Words" "start" "I") zw_X5_readSign_493) (fun _ h9 => h9) rfl dX5_readSign_17 ?_
  obtain ⟨o_10, hqo_10, hfn⟩ := zb_s hfn
  refine zcVb (ci := 5) (rest := []) (pc' := 23) (ws' := [zV5 h0 r0_0 v0_1 o_10.2.1 o_10.2.2, zV10 r0_0 r1_0 r1_1 v1_2 v1_3 v1_4 v1_5 v1_6 v1_7, zVi r1_1 k2 1200 f2, zVi r1_0 k3 13 f3]) hP hK hD hS hA ⟨hx, hb, hml, hown, hts⟩ (zf_X5_stopAt l dC dI h0 1 v1_5 r0_0 v0_1 v0_2 v0_3 o_10 hqo_10 H.size) (cwV 2 hts gX5_readSign_X5_stopAt rfl rfl rfl zhd_X5_stopAt ⟨Nat.le_of_ble_eq_true rfl, Nat.le_of_ble_eq_true rfl⟩) [0] rfl (of_decide_eq_true rfl) [] rfl rfl rfl rfl hl.1 rfl (Nat.le_of_ble_eq_true rfl) dX5_readSign_20 ⟨Nat.le_of_ble_eq_true rfl, Nat.le_of_ble_eq_true rfl⟩ [some 0] (of_decide_eq_true rfl) (of_decide_eq_true rfl) rfl rfl rfl (fun H locs hw_13n hP hD hS => ?_)
  have ho := Option.some.inj hfn
  subst ho
  exact zrz hx hb hr hw_13n hK hP hD hS hQ ⟨rfl, hw_13n⟩ hlocks dX5_readSign_23
theorem zn_X5_readWhat_X5 : ∀ w ∈ wsX50, w ∈ wsX5_readWhat := fun _ h => List.mem_cons_of_mem _ (List.mem_append_left _ (List.mem_append_left _ (List.mem_append_left _ (List.mem_append_right _ h))))
theorem zw_X5_readWhat_495 : Cond.fieldLink RX5 12 "ShortEnough$Parser" "words" "LShortEnough$Words;" ∈ wsX5_readWhat := List.mem_of_getElem? (i := 1) (by decide +kernel)
theorem zn_X5_readWhat_X10 : ∀ w ∈ wsX100, w ∈ wsX5_readWhat := fun _ h => List.mem_cons_of_mem _ (List.mem_append_left _ (List.mem_append_left _ (List.mem_append_right _ h)))
theorem zw_X5_readWhat_497 : Cond.fieldLink RX5 34 "ShortEnough$Words" "kind" "I" ∈ wsX5_readWhat := List.mem_of_getElem? (i := 2) (by decide +kernel)
theorem zw_X5_readWhat_498 : Cond.constant RX5 148 (-1000000) ∈ wsX5_readWhat := List.mem_of_getElem? (i := 6) (by decide +kernel)
theorem zw_X5_readWhat_499 : Cond.constant RX5 108 (1000000) ∈ wsX5_readWhat := List.mem_of_getElem? (i := 7) (by decide +kernel)
theorem zn_X5_readWhat_X9 : ∀ w ∈ wsX90, w ∈ wsX5_readWhat := fun _ h => List.mem_cons_of_mem _ (List.mem_append_left _ (List.mem_append_right _ h))
theorem zw_X5_readWhat_501 : Cond.fieldLink RX5 44 "ShortEnough$Task" "numbers" "LShortEnough$Numbers;" ∈ wsX5_readWhat := List.mem_of_getElem? (i := 3) (by decide +kernel)
theorem zw_X5_readWhat_502 : Cond.fieldLink RX5 102 "ShortEnough$Parser" "got" "I" ∈ wsX5_readWhat := List.mem_of_getElem? (i := 5) (by decide +kernel)
theorem zw_X5_readWhat_503 : Cond.fieldLink RX5 138 "ShortEnough$Words" "value" "I" ∈ wsX5_readWhat := List.mem_of_getElem? (i := 4) (by decide +kernel)
set_option maxHeartbeats 4000000 in
set_option maxRecDepth 100000 in
theorem zf_X5_readWhat (l : Launch) (dC : Nat → ClassId) (dI : Nat → Nat → Nat) (h0 : Nat) (h1 : Nat) (p2 : Int32) (r0_0 : Nat) (v0_1 : Int32) (v0_2 : Int32) (v0_3 : Int32) (r1_0 : Nat) (r1_1 : Nat) (v1_2 : Int32) (v1_3 : Int32) (v1_4 : Int32) (v1_5 : Int32) (v1_6 : Int32) (v1_7 : Int32) (k2 : Nat) (f2 : Nat → Int32) (k3 : Nat) (f3 : Nat → Int32) (v4_0 : Int32) (r4_1 : Nat) (r4_2 : Nat) (r4_3 : Nat) (r4_4 : Nat) (v4_5 : Int32) (r4_6 : Nat) (r4_7 : Nat) (r4_8 : Nat) (v5_0 : Int32) (v5_1 : Int32) (r5_2 : Nat) (r5_3 : Nat) (r5_4 : Nat) (r5_5 : Nat) (r5_6 : Nat) (r5_7 : Nat) (r5_8 : Nat) (r5_9 : Nat) (k6 : Nat) (f6 : Nat → Int32) (k7 : Nat) (f7 : Nat → Int32) (k8 : Nat) (f8 : Nat → Int32) (o : Int32 × Int32 × Int32 × Int32 × Int32 × Int32 × Int32 × Int32 × Int32 × (Nat → Int32) × (Nat → Int32)) (hfn : fn_X5_readWhat p2 v0_1 v0_2 v0_3 v1_2 v1_3 v1_4 v1_5 v1_6 v1_7 f2 f3 v5_0 f6 f7 f8 = some o) (sz : Nat) : zMi l yX5_readWhat wsX5_readWhat ({ frames := 3, cells := 0, slots := 0, locals := 72 }) (dC, dI) vwCl [.ref h0, .ref h1, .int p2] [zV5 h0 r0_0 v0_1 v0_2 v0_3, zV10 r0_0 r1_0 r1_1 v1_2 v1_3 v1_4 v1_5 v1_6 v1_7, zVi r1_1 k2 1200 f2, zVi r1_0 k3 13 f3, zV9 h1 v4_0 r4_1 r4_2 r4_3 r4_4 v4_5 r4_6 r4_7 r4_8, zV4 r4_6 v5_0 v5_1 r5_2 r5_3 r5_4 r5_5 r5_6 r5_7 r5_8 r5_9, zVi r5_8 k6 28 f6, zVi r5_9 k7 28 f7, zVi r5_2 k8 14 f8] [(k2, .byte), (k3, .int), (k6, .int), (k7, .int), (k8, .int)] (fun r _ => r = o.1 ∧ narrow .boolean (.int o.1) = .int o.1) [zV5 h0 r0_0 o.2.1 o.2.2.1 o.2.2.2.1, zV10 r0_0 r1_0 r1_1 v1_2 o.2.2.2.2.1 o.2.2.2.2.2.1 o.2.2.2.2.2.2.1 o.2.2.2.2.2.2.2.1 o.2.2.2.2.2.2.2.2.1, zVi r1_1 k2 1200 f2, zVi r1_0 k3 13 f3, zV9 h1 v4_0 r4_1 r4_2 r4_3 r4_4 v4_5 r4_6 r4_7 r4_8, zV4 r4_6 v5_0 v5_1 r5_2 r5_3 r5_4 r5_5 r5_6 r5_7 r5_8 r5_9, zVi r5_8 k6 28 o.2.2.2.2.2.2.2.2.2.1, zVi r5_9 k7 28 o.2.2.2.2.2.2.2.2.2.2, zVi r5_2 k8 14 f8] [(k2, .byte), (k3, .int), (k6, .int), (k7, .int), (k8, .int)] sz := by
  refine zgoi (cc := cX5_readWhat) (maxL := 4) (ret := (some .boolean)) (C0 := RX5) (lv0 := [(0, .ref h0), (1, .ref h1), (2, .int p2)]) zpl_X5 rfl rfl rfl (Nat.le_of_ble_eq_true rfl) ?_
  intro p e s m below meth c A ls Q hx hb hr hts hown hlocks hml hP hK hD hA hS hl hQ
  unfold fn_X5_readWhat at hfn
  refine lv_aload_n hx hb dX5_readWhat_0 rfl (lv_at hl 0 rfl) ?_
  refine va_get (D := (dC, dI)) (ci := 5) (v := .ref r0_0) (C := RX5) (T := TX5) (N := 4) hx hb hts zn_X5_readWhat_X5 hown hK hP 0 rfl rfl 0 (of_decide_eq_true rfl) (hts (.fieldLink RX5 12 "ShortEnough$Parser" "words" "LShortEnough$Words;") zw_X5_readWhat_495) (fun _ h9 => h9) rfl dX5_readWhat_1 ?_
  refine va_get (D := (dC, dI)) (ci := 10) (v := .int v1_4) (C := RX10) (T := TX10) (N := 8) hx hb hts zn_X5_readWhat_X10 hown hK hP 1 rfl rfl 4 (of_decide_eq_true rfl) (hts (.fieldLink RX5 34 "ShortEnough$Words" "kind" "I") zw_X5_readWhat_497) (fun _ h9 => h9) rfl dX5_readWhat_4 ?_
  refine lv_iconst (v := 1) hx hb dX5_readWhat_7 zci_1 ?_
  refine lv_icmp_ne (tgt := 53) hx hb dX5_readWhat_8 (of_decide_eq_true rfl) (fun c_1 => ?_) (fun c_1 => ?_)
  · have hfn := (if_neg c_1).symm.trans hfn
    refine lv_aload_n hx hb dX5_readWhat_53 rfl (lv_at hl 0 rfl) ?_
    refine lv_iconst (v := 1) hx hb dX5_readWhat_54 zci_1 ?_
    refine lv_ldc (v := (-1000000)) hx hb hown (hts (.constant RX5 148 (-1000000)) zw_X5_readWhat_498) dX5_readWhat_55 ?_
    refine lv_ldc (v := 1000000) hx hb hown (hts (.constant RX5 108 (1000000)) zw_X5_readWhat_499) dX5_readWhat_57 ?_
    obtain ⟨o_2, hqo_2, hfn⟩ := zb_s hfn
    refine zcVb (ci := 5) (rest := []) (pc' := 62) (ws' := [zV5 h0 r0_0 o_2.2.1 o_2.2.2.1 o_2.2.2.2.1, zV10 r0_0 r1_0 r1_1 v1_2 o_2.2.2.2.2.1 o_2.2.2.2.2.2.1 o_2.2.2.2.2.2.2.1 o_2.2.2.2.2.2.2.2.1 o_2.2.2.2.2.2.2.2.2, zVi r1_1 k2 1200 f2, zVi r1_0 k3 13 f3, zV9 h1 v4_0 r4_1 r4_2 r4_3 r4_4 v4_5 r4_6 r4_7 r4_8, zV4 r4_6 v5_0 v5_1 r5_2 r5_3 r5_4 r5_5 r5_6 r5_7 r5_8 r5_9, zVi r5_8 k6 28 f6, zVi r5_9 k7 28 f7, zVi r5_2 k8 14 f8]) hP hK hD hS hA ⟨hx, hb, hml, hown, hts⟩ (zf_X5_readValue l dC dI h0 1 (-1000000) 1000000 r0_0 v0_1 v0_2 v0_3 r1_0 r1_1 v1_2 v1_3 v1_4 v1_5 v1_6 v1_7 k2 f2 k3 f3 o_2 hqo_2 s.heap.size) (cwV 3 hts gX5_readWhat_X5_readValue rfl rfl rfl zhd_X5_readValue ⟨Nat.le_of_ble_eq_true rfl, Nat.le_of_ble_eq_true rfl⟩) [0, 1, 2, 3] rfl (of_decide_eq_true rfl) [0, 1] rfl rfl rfl rfl hl.1 rfl (Nat.le_of_ble_eq_true rfl) dX5_readWhat_59 ⟨Nat.le_of_ble_eq_true rfl, Nat.le_of_ble_eq_true rfl⟩ [some 0, some 1, some 2, some 3] (of_decide_eq_true rfl) (of_decide_eq_true rfl) rfl rfl rfl (fun H locs hw_5n hP hD hS => ?_)
    refine lv_istore_n (lv' := [(3, .int o_2.1), (0, .ref h0), (1, .ref h1), (2, .int p2)]) hx hb dX5_readWhat_62 rfl hl (of_decide_eq_true rfl) rfl (fun ls hl => ?_)
    refine lv_aload_n hx hb dX5_readWhat_63 rfl (lv_at hl 2 rfl) ?_
    refine va_get (D := (dC, dI)) (ci := 9) (v := .ref r4_6) (C := RX9) (T := TX9) (N := 9) hx hb hts zn_X5_readWhat_X9 hown hK hP 4 rfl rfl 6 (of_decide_eq_true rfl) (hts (.fieldLink RX5 44 "ShortEnough$Task" "numbers" "LShortEnough$Numbers;") zw_X5_readWhat_501) (fun _ h9 => h9) rfl dX5_readWhat_64 ?_
    refine lv_iload_n hx hb dX5_readWhat_67 rfl (lv_at hl 3 rfl) ?_
    refine lv_iconst (v := (-1)) hx hb dX5_readWhat_68 zci_m1 ?_
    refine lv_iload_n hx hb dX5_readWhat_69 rfl (lv_at hl 0 rfl) ?_
    refine lv_if_eq (tgt := 80) hx hb dX5_readWhat_70 (of_decide_eq_true rfl) (fun c_6 => ?_) (fun c_6 => ?_)
    · have hfn := (if_pos c_6).symm.trans hfn
      refine lv_iconst (v := 0) hx hb dX5_readWhat_80 zci_0 ?_
      obtain ⟨o_7, hqo_7, hfn⟩ := zb_s hfn
      refine zcVv (ci := 4) (rest := []) (pc' := 84) (ws' := [zV5 h0 r0_0 o_2.2.1 o_2.2.2.1 o_2.2.2.2.1, zV10 r0_0 r1_0 r1_1 v1_2 o_2.2.2.2.2.1 o_2.2.2.2.2.2.1 o_2.2.2.2.2.2.2.1 o_2.2.2.2.2.2.2.2.1 o_2.2.2.2.2.2.2.2.2, zVi r1_1 k2 1200 f2, zVi r1_0 k3 13 f3, zV9 h1 v4_0 r4_1 r4_2 r4_3 r4_4 v4_5 r4_6 r4_7 r4_8, zV4 r4_6 v5_0 v5_1 r5_2 r5_3 r5_4 r5_5 r5_6 r5_7 r5_8 r5_9, zVi r5_8 k6 28 o_7.1, zVi r5_9 k7 28 o_7.2, zVi r5_2 k8 14 f8]) hP hK hD hS hA ⟨hx, hb, hml, hown, hts⟩ (zf_X4_prepare l dC dI r4_6 p2 (-1) 0 v5_0 v5_1 r5_2 r5_3 r5_4 r5_5 r5_6 r5_7 r5_8 r5_9 k6 f6 k7 f7 o_7 hqo_7 H.size) (cwV 3 hts gX5_readWhat_X4_prepare rfl rfl rfl zhd_X4_prepare ⟨Nat.le_of_ble_eq_true rfl, Nat.le_of_ble_eq_true rfl⟩) [5, 6, 7] rfl (of_decide_eq_true rfl) [2, 3] rfl rfl rfl rfl hl.1 rfl (Nat.le_of_ble_eq_true rfl) dX5_readWhat_81 ⟨Nat.le_of_ble_eq_true rfl, Nat.le_of_ble_eq_true rfl⟩ [none, none, none, none, none, some 0, some 1, some 2] (of_decide_eq_true rfl) (of_decide_eq_true rfl) rfl rfl rfl (fun H locs hP hD hS => ?_)
      refine lv_iload_n hx hb dX5_readWhat_84 rfl (lv_at hl 0 rfl) ?_
      have ho := Option.some.inj hfn
      subst ho
      exact zrz hx hb hr hw_5n hK hP hD hS hQ ⟨rfl, hw_5n⟩ hlocks dX5_readWhat_85
    have hfn := (if_neg c_6).symm.trans hfn
    refine lv_aload_n hx hb dX5_readWhat_73 rfl (lv_at hl 1 rfl) ?_
    refine va_get (D := (dC, dI)) (ci := 5) (v := .int o_2.2.1) (C := RX5) (T := TX5) (N := 4) hx hb hts zn_X5_readWhat_X5 hown hK hP 0 rfl rfl 1 (of_decide_eq_true rfl) (hts (.fieldLink RX5 102 "ShortEnough$Parser" "got" "I") zw_X5_readWhat_502) (fun _ h9 => h9) rfl dX5_readWhat_74 ?_
    refine lv_goto (tgt := 81) hx hb dX5_readWhat_77 (of_decide_eq_true rfl) ?_
    obtain ⟨o_11, hqo_11, hfn⟩ := zb_s hfn
    refine zcVv (ci := 4) (rest := []) (pc' := 84) (ws' := [zV5 h0 r0_0 o_2.2.1 o_2.2.2.1 o_2.2.2.2.1, zV10 r0_0 r1_0 r1_1 v1_2 o_2.2.2.2.2.1 o_2.2.2.2.2.2.1 o_2.2.2.2.2.2.2.1 o_2.2.2.2.2.2.2.2.1 o_2.2.2.2.2.2.2.2.2, zVi r1_1 k2 1200 f2, zVi r1_0 k3 13 f3, zV9 h1 v4_0 r4_1 r4_2 r4_3 r4_4 v4_5 r4_6 r4_7 r4_8, zV4 r4_6 v5_0 v5_1 r5_2 r5_3 r5_4 r5_5 r5_6 r5_7 r5_8 r5_9, zVi r5_8 k6 28 o_11.1, zVi r5_9 k7 28 o_11.2, zVi r5_2 k8 14 f8]) hP hK hD hS hA ⟨hx, hb, hml, hown, hts⟩ (zf_X4_prepare l dC dI r4_6 p2 (-1) o_2.2.1 v5_0 v5_1 r5_2 r5_3 r5_4 r5_5 r5_6 r5_7 r5_8 r5_9 k6 f6 k7 f7 o_11 hqo_11 H.size) (cwV 3 hts gX5_readWhat_X4_prepare rfl rfl rfl zhd_X4_prepare ⟨Nat.le_of_ble_eq_true rfl, Nat.le_of_ble_eq_true rfl⟩) [5, 6, 7] rfl (of_decide_eq_true rfl) [2, 3] rfl rfl rfl rfl hl.1 rfl (Nat.le_of_ble_eq_true rfl) dX5_readWhat_81 ⟨Nat.le_of_ble_eq_true rfl, Nat.le_of_ble_eq_true rfl⟩ [none, none, none, none, none, some 0, some 1, some 2] (of_decide_eq_true rfl) (of_decide_eq_true rfl) rfl rfl rfl (fun H locs hP hD hS => ?_)
    refine lv_iload_n hx hb dX5_readWhat_84 rfl (lv_at hl 0 rfl) ?_
    have ho := Option.some.inj hfn
    subst ho
    exact zrz hx hb hr hw_5n hK hP hD hS hQ ⟨rfl, hw_5n⟩ hlocks dX5_readWhat_85
  have hfn := (if_pos c_1).symm.trans hfn
  refine lv_aload_n hx hb dX5_readWhat_11 rfl (lv_at hl 0 rfl) ?_
  refine lv_aload_n hx hb dX5_readWhat_12 rfl (lv_at hl 1 rfl) ?_
  refine va_get (D := (dC, dI)) (ci := 9) (v := .ref r4_6) (C := RX9) (T := TX9) (N := 9) hx hb hts zn_X5_readWhat_X9 hown hK hP 4 rfl rfl 6 (of_decide_eq_true rfl) (hts (.fieldLink RX5 44 "ShortEnough$Task" "numbers" "LShortEnough$Numbers;") zw_X5_readWhat_501) (fun _ h9 => h9) rfl dX5_readWhat_13 ?_
  refine lv_aload_n hx hb dX5_readWhat_16 rfl (lv_at hl 0 rfl) ?_
  refine va_get (D := (dC, dI)) (ci := 5) (v := .ref r0_0) (C := RX5) (T := TX5) (N := 4) hx hb hts zn_X5_readWhat_X5 hown hK hP 0 rfl rfl 0 (of_decide_eq_true rfl) (hts (.fieldLink RX5 12 "ShortEnough$Parser" "words" "LShortEnough$Words;") zw_X5_readWhat_495) (fun _ h9 => h9) rfl dX5_readWhat_17 ?_
  refine va_get (D := (dC, dI)) (ci := 10) (v := .int v1_6) (C := RX10) (T := TX10) (N := 8) hx hb hts zn_X5_readWhat_X10 hown hK hP 1 rfl rfl 6 (of_decide_eq_true rfl) (hts (.fieldLink RX5 138 "ShortEnough$Words" "value" "I") zw_X5_readWhat_503) (fun _ h9 => h9) rfl dX5_readWhat_20 ?_
  obtain ⟨o_15, hqo_15, hfn⟩ := zb_s hfn
  refine zcVi (ci := 4) (rest := [.ref h0]) (pc' := 26) (ws' := [zV5 h0 r0_0 v0_1 v0_2 v0_3, zV10 r0_0 r1_0 r1_1 v1_2 v1_3 v1_4 v1_5 v1_6 v1_7, zVi r1_1 k2 1200 f2, zVi r1_0 k3 13 f3, zV9 h1 v4_0 r4_1 r4_2 r4_3 r4_4 v4_5 r4_6 r4_7 r4_8, zV4 r4_6 v5_0 v5_1 r5_2 r5_3 r5_4 r5_5 r5_6 r5_7 r5_8 r5_9, zVi r5_8 k6 28 f6, zVi r5_9 k7 28 f7, zVi r5_2 k8 14 f8]) hP hK hD hS hA ⟨hx, hb, hml, hown, hts⟩ (zf_X4_find l dC dI r4_6 v1_6 v5_0 v5_1 r5_2 r5_3 r5_4 r5_5 r5_6 r5_7 r5_8 r5_9 k8 f8 o_15 hqo_15 s.heap.size) (cwV 1 hts gX5_readWhat_X4_find rfl rfl rfl zhd_X4_find ⟨Nat.le_of_ble_eq_true rfl, Nat.le_of_ble_eq_true rfl⟩) [5, 8] rfl (of_decide_eq_true rfl) [4] rfl rfl rfl rfl hl.1 rfl (Nat.le_of_ble_eq_true rfl) dX5_readWhat_23 ⟨Nat.le_of_ble_eq_true rfl, Nat.le_of_ble_eq_true rfl⟩ [none, none, none, none, none, some 0, none, none, some 1] (of_decide_eq_true rfl) (of_decide_eq_true rfl) rfl rfl rfl (fun H locs hP hD hS => ?_)
  obtain ⟨o_19, hqo_19, hfn⟩ := zb_s hfn
  refine zcVb (ci := 5) (rest := []) (pc' := 29) (ws' := [zV5 h0 r0_0 o_19.2.1 o_19.2.2.1 o_19.2.2.2.1, zV10 r0_0 r1_0 r1_1 v1_2 o_19.2.2.2.2.1 o_19.2.2.2.2.2.1 o_19.2.2.2.2.2.2.1 o_19.2.2.2.2.2.2.2.1 o_19.2.2.2.2.2.2.2.2, zVi r1_1 k2 1200 f2, zVi r1_0 k3 13 f3, zV9 h1 v4_0 r4_1 r4_2 r4_3 r4_4 v4_5 r4_6 r4_7 r4_8, zV4 r4_6 v5_0 v5_1 r5_2 r5_3 r5_4 r5_5 r5_6 r5_7 r5_8 r5_9, zVi r5_8 k6 28 f6, zVi r5_9 k7 28 f7, zVi r5_2 k8 14 f8]) hP hK hD hS hA ⟨hx, hb, hml, hown, hts⟩ (zf_X5_readKnown l dC dI h0 o_15 r0_0 v0_1 v0_2 v0_3 r1_0 r1_1 v1_2 v1_3 v1_4 v1_5 v1_6 v1_7 k2 f2 k3 f3 o_19 hqo_19 H.size) (cwV 1 hts gX5_readWhat_X5_readKnown rfl rfl rfl zhd_X5_readKnown ⟨Nat.le_of_ble_eq_true rfl, Nat.le_of_ble_eq_true rfl⟩) [0, 1, 2, 3] rfl (of_decide_eq_true rfl) [0, 1] rfl rfl rfl rfl hl.1 rfl (Nat.le_of_ble_eq_true rfl) dX5_readWhat_26 ⟨Nat.le_of_ble_eq_true rfl, Nat.le_of_ble_eq_true rfl⟩ [some 0, some 1, some 2, some 3] (of_decide_eq_true rfl) (of_decide_eq_true rfl) rfl rfl rfl (fun H locs hw_22n hP hD hS => ?_)
  refine lv_istore_n (lv' := [(3, .int o_19.1), (0, .ref h0), (1, .ref h1), (2, .int p2)]) hx hb dX5_readWhat_29 rfl hl (of_decide_eq_true rfl) rfl (fun ls hl => ?_)
  refine lv_aload_n hx hb dX5_readWhat_30 rfl (lv_at hl 2 rfl) ?_
  refine va_get (D := (dC, dI)) (ci := 9) (v := .ref r4_6) (C := RX9) (T := TX9) (N := 9) hx hb hts zn_X5_readWhat_X9 hown hK hP 4 rfl rfl 6 (of_decide_eq_true rfl) (hts (.fieldLink RX5 44 "ShortEnough$Task" "numbers" "LShortEnough$Numbers;") zw_X5_readWhat_501) (fun _ h9 => h9) rfl dX5_readWhat_31 ?_
  refine lv_iload_n hx hb dX5_readWhat_34 rfl (lv_at hl 3 rfl) ?_
  refine lv_iload_n hx hb dX5_readWhat_35 rfl (lv_at hl 0 rfl) ?_
  refine lv_if_eq (tgt := 46) hx hb dX5_readWhat_36 (of_decide_eq_true rfl) (fun c_23 => ?_) (fun c_23 => ?_)
  · have hfn := (if_pos c_23).symm.trans hfn
    refine lv_iconst (v := (-1)) hx hb dX5_readWhat_46 zci_m1 ?_
    refine lv_iconst (v := 0) hx hb dX5_readWhat_47 zci_0 ?_
    obtain ⟨o_24, hqo_24, hfn⟩ := zb_s hfn
    refine zcVv (ci := 4) (rest := []) (pc' := 51) (ws' := [zV5 h0 r0_0 o_19.2.1 o_19.2.2.1 o_19.2.2.2.1, zV10 r0_0 r1_0 r1_1 v1_2 o_19.2.2.2.2.1 o_19.2.2.2.2.2.1 o_19.2.2.2.2.2.2.1 o_19.2.2.2.2.2.2.2.1 o_19.2.2.2.2.2.2.2.2, zVi r1_1 k2 1200 f2, zVi r1_0 k3 13 f3, zV9 h1 v4_0 r4_1 r4_2 r4_3 r4_4 v4_5 r4_6 r4_7 r4_8, zV4 r4_6 v5_0 v5_1 r5_2 r5_3 r5_4 r5_5 r5_6 r5_7 r5_8 r5_9, zVi r5_8 k6 28 o_24.1, zVi r5_9 k7 28 o_24.2, zVi r5_2 k8 14 f8]) hP hK hD hS hA ⟨hx, hb, hml, hown, hts⟩ (zf_X4_prepare l dC dI r4_6 p2 (-1) 0 v5_0 v5_1 r5_2 r5_3 r5_4 r5_5 r5_6 r5_7 r5_8 r5_9 k6 f6 k7 f7 o_24 hqo_24 H.size) (cwV 3 hts gX5_readWhat_X4_prepare rfl rfl rfl zhd_X4_prepare ⟨Nat.le_of_ble_eq_true rfl, Nat.le_of_ble_eq_true rfl⟩) [5, 6, 7] rfl (of_decide_eq_true rfl) [2, 3] rfl rfl rfl rfl hl.1 rfl (Nat.le_of_ble_eq_true rfl) dX5_readWhat_48 ⟨Nat.le_of_ble_eq_true rfl, Nat.le_of_ble_eq_true rfl⟩ [none, none, none, none, none, some 0, some 1, some 2] (of_decide_eq_true rfl) (of_decide_eq_true rfl) rfl rfl rfl (fun H locs hP hD hS => ?_)
    refine lv_iload_n hx hb dX5_readWhat_51 rfl (lv_at hl 0 rfl) ?_
    have ho := Option.some.inj hfn
    subst ho
    exact zrz hx hb hr hw_22n hK hP hD hS hQ ⟨rfl, hw_22n⟩ hlocks dX5_readWhat_52
  have hfn := (if_neg c_23).symm.trans hfn
  refine lv_aload_n hx hb dX5_readWhat_39 rfl (lv_at hl 1 rfl) ?_
  refine va_get (D := (dC, dI)) (ci := 5) (v := .int o_19.2.1) (C := RX5) (T := TX5) (N := 4) hx hb hts zn_X5_readWhat_X5 hown hK hP 0 rfl rfl 1 (of_decide_eq_true rfl) (hts (.fieldLink RX5 102 "ShortEnough$Parser" "got" "I") zw_X5_readWhat_502) (fun _ h9 => h9) rfl dX5_readWhat_40 ?_
  refine lv_goto (tgt := 47) hx hb dX5_readWhat_43 (of_decide_eq_true rfl) ?_
  refine lv_iconst (v := 0) hx hb dX5_readWhat_47 zci_0 ?_
  obtain ⟨o_28, hqo_28, hfn⟩ := zb_s hfn
  refine zcVv (ci := 4) (rest := []) (pc' := 51) (ws' := [zV5 h0 r0_0 o_19.2.1 o_19.2.2.1 o_19.2.2.2.1, zV10 r0_0 r1_0 r1_1 v1_2 o_19.2.2.2.2.1 o_19.2.2.2.2.2.1 o_19.2.2.2.2.2.2.1 o_19.2.2.2.2.2.2.2.1 o_19.2.2.2.2.2.2.2.2, zVi r1_1 k2 1200 f2, zVi r1_0 k3 13 f3, zV9 h1 v4_0 r4_1 r4_2 r4_3 r4_4 v4_5 r4_6 r4_7 r4_8, zV4 r4_6 v5_0 v5_1 r5_2 r5_3 r5_4 r5_5 r5_6 r5_7 r5_8 r5_9, zVi r5_8 k6 28 o_28.1, zVi r5_9 k7 28 o_28.2, zVi r5_2 k8 14 f8]) hP hK hD hS hA ⟨hx, hb, hml, hown, hts⟩ (zf_X4_prepare l dC dI r4_6 p2 o_19.2.1 0 v5_0 v5_1 r5_2 r5_3 r5_4 r5_5 r5_6 r5_7 r5_8 r5_9 k6 f6 k7 f7 o_28 hqo_28 H.size) (cwV 3 hts gX5_readWhat_X4_prepare rfl rfl rfl zhd_X4_prepare ⟨Nat.le_of_ble_eq_true rfl, Nat.le_of_ble_eq_true rfl⟩) [5, 6, 7] rfl (of_decide_eq_true rfl) [2, 3] rfl rfl rfl rfl hl.1 rfl (Nat.le_of_ble_eq_true rfl) dX5_readWhat_48 ⟨Nat.le_of_ble_eq_true rfl, Nat.le_of_ble_eq_true rfl⟩ [none, none, none, none, none, some 0, some 1, some 2] (of_decide_eq_true rfl) (of_decide_eq_true rfl) rfl rfl rfl (fun H locs hP hD hS => ?_)
  refine lv_iload_n hx hb dX5_readWhat_51 rfl (lv_at hl 0 rfl) ?_
  have ho := Option.some.inj hfn
  subst ho
  exact zrz hx hb hr hw_22n hK hP hD hS hQ ⟨rfl, hw_22n⟩ hlocks dX5_readWhat_52
theorem zn_X5_readOp_X5 : ∀ w ∈ wsX50, w ∈ wsX5_readOp := fun _ h => List.mem_cons_of_mem _ (List.mem_append_left _ (List.mem_append_right _ h))
theorem zw_X5_readOp_505 : Cond.fieldLink RX5 12 "ShortEnough$Parser" "words" "LShortEnough$Words;" ∈ wsX5_readOp := List.mem_of_getElem? (i := 1) (by decide +kernel)
theorem zn_X5_readOp_X10 : ∀ w ∈ wsX100, w ∈ wsX5_readOp := fun _ h => List.mem_cons_of_mem _ (List.mem_append_right _ h)
theorem zw_X5_readOp_507 : Cond.fieldLink RX5 64 "ShortEnough$Words" "start" "I" ∈ wsX5_readOp := List.mem_of_getElem? (i := 3) (by decide +kernel)
theorem zw_X5_readOp_508 : Cond.fieldLink RX5 102 "ShortEnough$Parser" "got" "I" ∈ wsX5_readOp := List.mem_of_getElem? (i := 2) (by decide +kernel)
set_option maxHeartbeats 4000000 in
set_option maxRecDepth 100000 in
theorem zf_X5_readOp (l : Launch) (dC : Nat → ClassId) (dI : Nat → Nat → Nat) (h0 : Nat) (r0_0 : Nat) (v0_1 : Int32) (v0_2 : Int32) (v0_3 : Int32) (r1_0 : Nat) (r1_1 : Nat) (v1_2 : Int32) (v1_3 : Int32) (v1_4 : Int32) (v1_5 : Int32) (v1_6 : Int32) (v1_7 : Int32) (k2 : Nat) (f2 : Nat → Int32) (k3 : Nat) (f3 : Nat → Int32) (o : Int32 × Int32 × Int32 × Int32 × Int32 × Int32 × Int32 × Int32 × Int32) (hfn : fn_X5_readOp v0_1 v0_2 v0_3 v1_2 v1_3 v1_4 v1_5 v1_6 v1_7 f2 f3 = some o) (sz : Nat) : zMi l yX5_readOp wsX5_readOp ({ frames := 2, cells := 0, slots := 0, locals := 46 }) (dC, dI) vwCl [.ref h0] [zV5 h0 r0_0 v0_1 v0_2 v0_3, zV10 r0_0 r1_0 r1_1 v1_2 v1_3 v1_4 v1_5 v1_6 v1_7, zVi r1_1 k2 1200 f2, zVi r1_0 k3 13 f3] [(k2, .byte), (k3, .int)] (fun r _ => r = o.1 ∧ narrow .boolean (.int o.1) = .int o.1) [zV5 h0 r0_0 o.2.1 o.2.2.1 o.2.2.2.1, zV10 r0_0 r1_0 r1_1 v1_2 o.2.2.2.2.1 o.2.2.2.2.2.1 o.2.2.2.2.2.2.1 o.2.2.2.2.2.2.2.1 o.2.2.2.2.2.2.2.2, zVi r1_1 k2 1200 f2, zVi r1_0 k3 13 f3] [(k2, .byte), (k3, .int)] sz := by
  refine zgoi (cc := cX5_readOp) (maxL := 1) (ret := (some .boolean)) (C0 := RX5) (lv0 := [(0, .ref h0)]) zpl_X5 rfl rfl rfl (Nat.le_of_ble_eq_true rfl) ?_
  intro p e s m below meth c A ls Q hx hb hr hts hown hlocks hml hP hK hD hA hS hl hQ
  unfold fn_X5_readOp at hfn
  refine lv_aload_n hx hb dX5_readOp_0 rfl (lv_at hl 0 rfl) ?_
  refine va_get (D := (dC, dI)) (ci := 5) (v := .ref r0_0) (C := RX5) (T := TX5) (N := 4) hx hb hts zn_X5_readOp_X5 hown hK hP 0 rfl rfl 0 (of_decide_eq_true rfl) (hts (.fieldLink RX5 12 "ShortEnough$Parser" "words" "LShortEnough$Words;") zw_X5_readOp_505) (fun _ h9 => h9) rfl dX5_readOp_1 ?_
  refine lv_bipush (v := 43) hx hb dX5_readOp_4 zcb_43 ?_
  obtain ⟨o_1, hqo_1, hfn⟩ := zb_s hfn
  refine zcVb (ci := 10) (rest := []) (pc' := 9) (ws' := [zV5 h0 r0_0 v0_1 v0_2 v0_3, zV10 r0_0 r1_0 r1_1 v1_2 v1_3 v1_4 v1_5 v1_6 v1_7, zVi r1_1 k2 1200 f2, zVi r1_0 k3 13 f3]) hP hK hD hS hA ⟨hx, hb, hml, hown, hts⟩ (zf_X10_isSign l dC dI r0_0 43 r1_0 r1_1 v1_2 v1_3 v1_4 v1_5 v1_6 v1_7 o_1 hqo_1 s.heap.size) (cwV 1 hts gX5_readOp_X10_isSign rfl rfl rfl zhd_X10_isSign ⟨Nat.le_of_ble_eq_true rfl, Nat.le_of_ble_eq_true rfl⟩) [1] rfl (of_decide_eq_true rfl) [] rfl rfl rfl rfl hl.1 rfl (Nat.le_of_ble_eq_true rfl) dX5_readOp_6 ⟨Nat.le_of_ble_eq_true rfl, Nat.le_of_ble_eq_true rfl⟩ [none, some 0] (of_decide_eq_true rfl) (of_decide_eq_true rfl) rfl rfl rfl (fun H locs hw_4n hP hD hS => ?_)
  refine lv_if_eq (tgt := 20) hx hb dX5_readOp_9 (of_decide_eq_true rfl) (fun c_5 => ?_) (fun c_5 => ?_)
  · have hfn := (if_pos c_5).symm.trans hfn
    refine lv_aload_n hx hb dX5_readOp_20 rfl (lv_at hl 0 rfl) ?_
    refine va_get (D := (dC, dI)) (ci := 5) (v := .ref r0_0) (C := RX5) (T := TX5) (N := 4) hx hb hts zn_X5_readOp_X5 hown hK hP 0 rfl rfl 0 (of_decide_eq_true rfl) (hts (.fieldLink RX5 12 "ShortEnough$Parser" "words" "LShortEnough$Words;") zw_X5_readOp_505) (fun _ h9 => h9) rfl dX5_readOp_21 ?_
    refine lv_bipush (v := 45) hx hb dX5_readOp_24 zcb_45 ?_
    obtain ⟨o_6, hqo_6, hfn⟩ := zb_s hfn
    refine zcVb (ci := 10) (rest := []) (pc' := 29) (ws' := [zV5 h0 r0_0 v0_1 v0_2 v0_3, zV10 r0_0 r1_0 r1_1 v1_2 v1_3 v1_4 v1_5 v1_6 v1_7, zVi r1_1 k2 1200 f2, zVi r1_0 k3 13 f3]) hP hK hD hS hA ⟨hx, hb, hml, hown, hts⟩ (zf_X10_isSign l dC dI r0_0 45 r1_0 r1_1 v1_2 v1_3 v1_4 v1_5 v1_6 v1_7 o_6 hqo_6 H.size) (cwV 1 hts gX5_readOp_X10_isSign rfl rfl rfl zhd_X10_isSign ⟨Nat.le_of_ble_eq_true rfl, Nat.le_of_ble_eq_true rfl⟩) [1] rfl (of_decide_eq_true rfl) [] rfl rfl rfl rfl hl.1 rfl (Nat.le_of_ble_eq_true rfl) dX5_readOp_26 ⟨Nat.le_of_ble_eq_true rfl, Nat.le_of_ble_eq_true rfl⟩ [none, some 0] (of_decide_eq_true rfl) (of_decide_eq_true rfl) rfl rfl rfl (fun H locs hw_9n hP hD hS => ?_)
    refine lv_if_eq (tgt := 40) hx hb dX5_readOp_29 (of_decide_eq_true rfl) (fun c_10 => ?_) (fun c_10 => ?_)
    · have hfn := (if_pos c_10).symm.trans hfn
      refine lv_aload_n hx hb dX5_readOp_40 rfl (lv_at hl 0 rfl) ?_
      refine va_get (D := (dC, dI)) (ci := 5) (v := .ref r0_0) (C := RX5) (T := TX5) (N := 4) hx hb hts zn_X5_readOp_X5 hown hK hP 0 rfl rfl 0 (of_decide_eq_true rfl) (hts (.fieldLink RX5 12 "ShortEnough$Parser" "words" "LShortEnough$Words;") zw_X5_readOp_505) (fun _ h9 => h9) rfl dX5_readOp_41 ?_
      refine lv_bipush (v := 42) hx hb dX5_readOp_44 zcb_42 ?_
      obtain ⟨o_11, hqo_11, hfn⟩ := zb_s hfn
      refine zcVb (ci := 10) (rest := []) (pc' := 49) (ws' := [zV5 h0 r0_0 v0_1 v0_2 v0_3, zV10 r0_0 r1_0 r1_1 v1_2 v1_3 v1_4 v1_5 v1_6 v1_7, zVi r1_1 k2 1200 f2, zVi r1_0 k3 13 f3]) hP hK hD hS hA ⟨hx, hb, hml, hown, hts⟩ (zf_X10_isSign l dC dI r0_0 42 r1_0 r1_1 v1_2 v1_3 v1_4 v1_5 v1_6 v1_7 o_11 hqo_11 H.size) (cwV 1 hts gX5_readOp_X10_isSign rfl rfl rfl zhd_X10_isSign ⟨Nat.le_of_ble_eq_true rfl, Nat.le_of_ble_eq_true rfl⟩) [1] rfl (of_decide_eq_true rfl) [] rfl rfl rfl rfl hl.1 rfl (Nat.le_of_ble_eq_true rfl) dX5_readOp_46 ⟨Nat.le_of_ble_eq_true rfl, Nat.le_of_ble_eq_true rfl⟩ [none, some 0] (of_decide_eq_true rfl) (of_decide_eq_true rfl) rfl rfl rfl (fun H locs hw_14n hP hD hS => ?_)
      refine lv_if_eq (tgt := 60) hx hb dX5_readOp_49 (of_decide_eq_true rfl) (fun c_15 => ?_) (fun c_15 => ?_)
      · have hfn := (if_pos c_15).symm.trans hfn
        refine lv_aload_n hx hb dX5_readOp_60 rfl (lv_at hl 0 rfl) ?_
        refine va_get (D := (dC, dI)) (ci := 5) (v := .ref r0_0) (C := RX5) (T := TX5) (N := 4) hx hb hts zn_X5_readOp_X5 hown hK hP 0 rfl rfl 0 (of_decide_eq_true rfl) (hts (.fieldLink RX5 12 "ShortEnough$Parser" "words" "LShortEnough$Words;") zw_X5_readOp_505) (fun _ h9 => h9) rfl dX5_readOp_61 ?_
        refine lv_bipush (v := 7) hx hb dX5_readOp_64 zcb_7 ?_
        obtain ⟨o_16, hqo_16, hfn⟩ := zb_s hfn
        refine zcVb (ci := 10) (rest := []) (pc' := 69) (ws' := [zV5 h0 r0_0 v0_1 v0_2 v0_3, zV10 r0_0 r1_0 r1_1 v1_2 v1_3 v1_4 v1_5 v1_6 v1_7, zVi r1_1 k2 1200 f2, zVi r1_0 k3 13 f3]) hP hK hD hS hA ⟨hx, hb, hml, hown, hts⟩ (zf_X10_isOwn l dC dI r0_0 7 r1_0 r1_1 v1_2 v1_3 v1_4 v1_5 v1_6 v1_7 o_16 hqo_16 H.size) (cwV 1 hts gX5_readOp_X10_isOwn rfl rfl rfl zhd_X10_isOwn ⟨Nat.le_of_ble_eq_true rfl, Nat.le_of_ble_eq_true rfl⟩) [1] rfl (of_decide_eq_true rfl) [] rfl rfl rfl rfl hl.1 rfl (Nat.le_of_ble_eq_true rfl) dX5_readOp_66 ⟨Nat.le_of_ble_eq_true rfl, Nat.le_of_ble_eq_true rfl⟩ [none, some 0] (of_decide_eq_true rfl) (of_decide_eq_true rfl) rfl rfl rfl (fun H locs hw_19n hP hD hS => ?_)
        refine lv_if_eq (tgt := 80) hx hb dX5_readOp_69 (of_decide_eq_true rfl) (fun c_20 => ?_) (fun c_20 => ?_)
        · have hfn := (if_pos c_20).symm.trans hfn
          refine lv_aload_n hx hb dX5_readOp_80 rfl (lv_at hl 0 rfl) ?_
          refine va_get (D := (dC, dI)) (ci := 5) (v := .ref r0_0) (C := RX5) (T := TX5) (N := 4) hx hb hts zn_X5_readOp_X5 hown hK hP 0 rfl rfl 0 (of_decide_eq_true rfl) (hts (.fieldLink RX5 12 "ShortEnough$Parser" "words" "LShortEnough$Words;") zw_X5_readOp_505) (fun _ h9 => h9) rfl dX5_readOp_81 ?_
          refine lv_bipush (v := 8) hx hb dX5_readOp_84 zcb_8 ?_
          obtain ⟨o_21, hqo_21, hfn⟩ := zb_s hfn
          refine zcVb (ci := 10) (rest := []) (pc' := 89) (ws' := [zV5 h0 r0_0 v0_1 v0_2 v0_3, zV10 r0_0 r1_0 r1_1 v1_2 v1_3 v1_4 v1_5 v1_6 v1_7, zVi r1_1 k2 1200 f2, zVi r1_0 k3 13 f3]) hP hK hD hS hA ⟨hx, hb, hml, hown, hts⟩ (zf_X10_isOwn l dC dI r0_0 8 r1_0 r1_1 v1_2 v1_3 v1_4 v1_5 v1_6 v1_7 o_21 hqo_21 H.size) (cwV 1 hts gX5_readOp_X10_isOwn rfl rfl rfl zhd_X10_isOwn ⟨Nat.le_of_ble_eq_true rfl, Nat.le_of_ble_eq_true rfl⟩) [1] rfl (of_decide_eq_true rfl) [] rfl rfl rfl rfl hl.1 rfl (Nat.le_of_ble_eq_true rfl) dX5_readOp_86 ⟨Nat.le_of_ble_eq_true rfl, Nat.le_of_ble_eq_true rfl⟩ [none, some 0] (of_decide_eq_true rfl) (of_decide_eq_true rfl) rfl rfl rfl (fun H locs hw_24n hP hD hS => ?_)
          refine lv_if_eq (tgt := 100) hx hb dX5_readOp_89 (of_decide_eq_true rfl) (fun c_25 => ?_) (fun c_25 => ?_)
          · have hfn := (if_pos c_25).symm.trans hfn
            refine lv_aload_n hx hb dX5_readOp_100 rfl (lv_at hl 0 rfl) ?_
            refine lv_iconst (v := 1) hx hb dX5_readOp_101 zci_1 ?_
            refine lv_aload_n hx hb dX5_readOp_102 rfl (lv_at hl 0 rfl) ?_
            refine va_get (D := (dC, dI)) (ci := 5) (v := .ref r0_0) (C := RX5) (T := TX5) (N := 4) hx hb hts zn_X5_readOp_X5 hown hK hP 0 rfl rfl 0 (of_decide_eq_true rfl) (hts (.fieldLink RX5 12 "ShortEnough$Parser" "words" "LShortEnough$Words;") zw_X5_readOp_505) (fun _ h9 => h9) rfl dX5_readOp_103 ?_
            refine va_get (D := (dC, dI)) (ci := 10) (v := .int v1_5) (C := RX10) (T := TX10) (N := 8) hx hb hts zn_X5_readOp_X10 hown hK hP 1 rfl rfl 5 (of_decide_eq_true rfl) (hts (.fieldLink RX5 64 "ShortEnough$Words" "start" "I") zw_X5_readOp_507) (fun _ h9 => h9) rfl dX5_readOp_106 ?_
            obtain ⟨o_26, hqo_26, hfn⟩ := zb_s hfn
            refine zcVb (ci := 5) (rest := []) (pc' := 112) (ws' := [zV5 h0 r0_0 v0_1 o_26.2.1 o_26.2.2, zV10 r0_0 r1_0 r1_1 v1_2 v1_3 v1_4 v1_5 v1_6 v1_7, zVi r1_1 k2 1200 f2, zVi r1_0 k3 13 f3]) hP hK hD hS hA ⟨hx, hb, hml, hown, hts⟩ (zf_X5_stopAt l dC dI h0 1 v1_5 r0_0 v0_1 v0_2 v0_3 o_26 hqo_26 H.size) (cwV 2 hts gX5_readOp_X5_stopAt rfl rfl rfl zhd_X5_stopAt ⟨Nat.le_of_ble_eq_true rfl, Nat.le_of_ble_eq_true rfl⟩) [0] rfl (of_decide_eq_true rfl) [] rfl rfl rfl rfl hl.1 rfl (Nat.le_of_ble_eq_true rfl) dX5_readOp_109 ⟨Nat.le_of_ble_eq_true rfl, Nat.le_of_ble_eq_true rfl⟩ [some 0] (of_decide_eq_true rfl) (of_decide_eq_true rfl) rfl rfl rfl (fun H locs hw_29n hP hD hS => ?_)
            have ho := Option.some.inj hfn
            subst ho
            exact zrz hx hb hr hw_29n hK hP hD hS hQ ⟨rfl, hw_29n⟩ hlocks dX5_readOp_112
          have hfn := (if_neg c_25).symm.trans hfn
          refine lv_aload_n hx hb dX5_readOp_92 rfl (lv_at hl 0 rfl) ?_
          refine lv_iconst (v := 5) hx hb dX5_readOp_93 zci_5 ?_
          refine va_put (D := (dC, dI)) (ci := 5) (v := .int 5) (ty := .int) (C := RX5) (T := TX5) (N := 4) hx hb hts zn_X5_readOp_X5 tyX5 tyX5_ok nmX5 hown hK hP hD hS 0 rfl rfl 1 (of_decide_eq_true rfl) (hts (.fieldLink RX5 102 "ShortEnough$Parser" "got" "I") zw_X5_readOp_508) (fun _ h9 => h9) rfl (tyX5_ok 1 (of_decide_eq_true rfl)) rfl rfl (Nat.le_of_ble_eq_true rfl) dX5_readOp_94 (fun H locs hP hD hS => ?_)
          have hP : va_P (dC, dI) vwCl [zV5 h0 r0_0 5 v0_2 v0_3, zV10 r0_0 r1_0 r1_1 v1_2 v1_3 v1_4 v1_5 v1_6 v1_7, zVi r1_1 k2 1200 f2, zVi r1_0 k3 13 f3] H := hP
          have hD := zDW hD hP rfl
          refine lv_goto (tgt := 113) hx hb dX5_readOp_97 (of_decide_eq_true rfl) ?_
          refine lv_aload_n hx hb dX5_readOp_113 rfl (lv_at hl 0 rfl) ?_
          refine va_get (D := (dC, dI)) (ci := 5) (v := .ref r0_0) (C := RX5) (T := TX5) (N := 4) hx hb hts zn_X5_readOp_X5 hown hK hP 0 rfl rfl 0 (of_decide_eq_true rfl) (hts (.fieldLink RX5 12 "ShortEnough$Parser" "words" "LShortEnough$Words;") zw_X5_readOp_505) (fun _ h9 => h9) rfl dX5_readOp_114 ?_
          obtain ⟨o_30, hqo_30, hfn⟩ := zb_s hfn
          refine zcVv (ci := 10) (rest := []) (pc' := 120) (ws' := [zV5 h0 r0_0 5 v0_2 v0_3, zV10 r0_0 r1_0 r1_1 v1_2 o_30.1 o_30.2.1 o_30.2.2.1 o_30.2.2.2.1 o_30.2.2.2.2, zVi r1_1 k2 1200 f2, zVi r1_0 k3 13 f3]) hP hK hD hS hA ⟨hx, hb, hml, hown, hts⟩ (zf_X10_advance l dC dI r0_0 r1_0 r1_1 v1_2 v1_3 v1_4 v1_5 v1_6 v1_7 k2 f2 k3 f3 o_30 hqo_30 H.size) (cwV 0 hts gX5_readOp_X10_advance rfl rfl rfl zhd_X10_advance ⟨Nat.le_of_ble_eq_true rfl, Nat.le_of_ble_eq_true rfl⟩) [1, 2, 3] rfl (of_decide_eq_true rfl) [0, 1] rfl rfl rfl rfl hl.1 rfl (Nat.le_of_ble_eq_true rfl) dX5_readOp_117 ⟨Nat.le_of_ble_eq_true rfl, Nat.le_of_ble_eq_true rfl⟩ [none, some 0, some 1, some 2] (of_decide_eq_true rfl) (of_decide_eq_true rfl) rfl rfl rfl (fun H locs hP hD hS => ?_)
          refine lv_iconst (v := 1) hx hb dX5_readOp_120 zci_1 ?_
          have ho := Option.some.inj hfn
          subst ho
          exact zrz hx hb hr rfl hK hP hD hS hQ ⟨rfl, zB1⟩ hlocks dX5_readOp_121
        have hfn := (if_neg c_20).symm.trans hfn
        refine lv_aload_n hx hb dX5_readOp_72 rfl (lv_at hl 0 rfl) ?_
        refine lv_iconst (v := 4) hx hb dX5_readOp_73 zci_4 ?_
        refine va_put (D := (dC, dI)) (ci := 5) (v := .int 4) (ty := .int) (C := RX5) (T := TX5) (N := 4) hx hb hts zn_X5_readOp_X5 tyX5 tyX5_ok nmX5 hown hK hP hD hS 0 rfl rfl 1 (of_decide_eq_true rfl) (hts (.fieldLink RX5 102 "ShortEnough$Parser" "got" "I") zw_X5_readOp_508) (fun _ h9 => h9) rfl (tyX5_ok 1 (of_decide_eq_true rfl)) rfl rfl (Nat.le_of_ble_eq_true rfl) dX5_readOp_74 (fun H locs hP hD hS => ?_)
        have hP : va_P (dC, dI) vwCl [zV5 h0 r0_0 4 v0_2 v0_3, zV10 r0_0 r1_0 r1_1 v1_2 v1_3 v1_4 v1_5 v1_6 v1_7, zVi r1_1 k2 1200 f2, zVi r1_0 k3 13 f3] H := hP
        have hD := zDW hD hP rfl
        refine lv_goto (tgt := 113) hx hb dX5_readOp_77 (of_decide_eq_true rfl) ?_
        refine lv_aload_n hx hb dX5_readOp_113 rfl (lv_at hl 0 rfl) ?_
        refine va_get (D := (dC, dI)) (ci := 5) (v := .ref r0_0) (C := RX5) (T := TX5) (N := 4) hx hb hts zn_X5_readOp_X5 hown hK hP 0 rfl rfl 0 (of_decide_eq_true rfl) (hts (.fieldLink RX5 12 "ShortEnough$Parser" "words" "LShortEnough$Words;") zw_X5_readOp_505) (fun _ h9 => h9) rfl dX5_readOp_114 ?_
        obtain ⟨o_34, hqo_34, hfn⟩ := zb_s hfn
        refine zcVv (ci := 10) (rest := []) (pc' := 120) (ws' := [zV5 h0 r0_0 4 v0_2 v0_3, zV10 r0_0 r1_0 r1_1 v1_2 o_34.1 o_34.2.1 o_34.2.2.1 o_34.2.2.2.1 o_34.2.2.2.2, zVi r1_1 k2 1200 f2, zVi r1_0 k3 13 f3]) hP hK hD hS hA ⟨hx, hb, hml, hown, hts⟩ (zf_X10_advance l dC dI r0_0 r1_0 r1_1 v1_2 v1_3 v1_4 v1_5 v1_6 v1_7 k2 f2 k3 f3 o_34 hqo_34 H.size) (cwV 0 hts gX5_readOp_X10_advance rfl rfl rfl zhd_X10_advance ⟨Nat.le_of_ble_eq_true rfl, Nat.le_of_ble_eq_true rfl⟩) [1, 2, 3] rfl (of_decide_eq_true rfl) [0, 1] rfl rfl rfl rfl hl.1 rfl (Nat.le_of_ble_eq_true rfl) dX5_readOp_117 ⟨Nat.le_of_ble_eq_true rfl, Nat.le_of_ble_eq_true rfl⟩ [none, some 0, some 1, some 2] (of_decide_eq_true rfl) (of_decide_eq_true rfl) rfl rfl rfl (fun H locs hP hD hS => ?_)
        refine lv_iconst (v := 1) hx hb dX5_readOp_120 zci_1 ?_
        have ho := Option.some.inj hfn
        subst ho
        exact zrz hx hb hr rfl hK hP hD hS hQ ⟨rfl, zB1⟩ hlocks dX5_readOp_121
      have hfn := (if_neg c_15).symm.trans hfn
      refine lv_aload_n hx hb dX5_readOp_52 rfl (lv_at hl 0 rfl) ?_
      refine lv_iconst (v := 3) hx hb dX5_readOp_53 zci_3 ?_
      refine va_put (D := (dC, dI)) (ci := 5) (v := .int 3) (ty := .int) (C := RX5) (T := TX5) (N := 4) hx hb hts zn_X5_readOp_X5 tyX5 tyX5_ok nmX5 hown hK hP hD hS 0 rfl rfl 1 (of_decide_eq_true rfl) (hts (.fieldLink RX5 102 "ShortEnough$Parser" "got" "I") zw_X5_readOp_508) (fun _ h9 => h9) rfl (tyX5_ok 1 (of_decide_eq_true rfl)) rfl rfl (Nat.le_of_ble_eq_true rfl) dX5_readOp_54 (fun H locs hP hD hS => ?_)
      have hP : va_P (dC, dI) vwCl [zV5 h0 r0_0 3 v0_2 v0_3, zV10 r0_0 r1_0 r1_1 v1_2 v1_3 v1_4 v1_5 v1_6 v1_7, zVi r1_1 k2 1200 f2, zVi r1_0 k3 13 f3] H := hP
      have hD := zDW hD hP rfl
      refine lv_goto (tgt := 113) hx hb dX5_readOp_57 (of_decide_eq_true rfl) ?_
      refine lv_aload_n hx hb dX5_readOp_113 rfl (lv_at hl 0 rfl) ?_
      refine va_get (D := (dC, dI)) (ci := 5) (v := .ref r0_0) (C := RX5) (T := TX5) (N := 4) hx hb hts zn_X5_readOp_X5 hown hK hP 0 rfl rfl 0 (of_decide_eq_true rfl) (hts (.fieldLink RX5 12 "ShortEnough$Parser" "words" "LShortEnough$Words;") zw_X5_readOp_505) (fun _ h9 => h9) rfl dX5_readOp_114 ?_
      obtain ⟨o_38, hqo_38, hfn⟩ := zb_s hfn
      refine zcVv (ci := 10) (rest := []) (pc' := 120) (ws' := [zV5 h0 r0_0 3 v0_2 v0_3, zV10 r0_0 r1_0 r1_1 v1_2 o_38.1 o_38.2.1 o_38.2.2.1 o_38.2.2.2.1 o_38.2.2.2.2, zVi r1_1 k2 1200 f2, zVi r1_0 k3 13 f3]) hP hK hD hS hA ⟨hx, hb, hml, hown, hts⟩ (zf_X10_advance l dC dI r0_0 r1_0 r1_1 v1_2 v1_3 v1_4 v1_5 v1_6 v1_7 k2 f2 k3 f3 o_38 hqo_38 H.size) (cwV 0 hts gX5_readOp_X10_advance rfl rfl rfl zhd_X10_advance ⟨Nat.le_of_ble_eq_true rfl, Nat.le_of_ble_eq_true rfl⟩) [1, 2, 3] rfl (of_decide_eq_true rfl) [0, 1] rfl rfl rfl rfl hl.1 rfl (Nat.le_of_ble_eq_true rfl) dX5_readOp_117 ⟨Nat.le_of_ble_eq_true rfl, Nat.le_of_ble_eq_true rfl⟩ [none, some 0, some 1, some 2] (of_decide_eq_true rfl) (of_decide_eq_true rfl) rfl rfl rfl (fun H locs hP hD hS => ?_)
      refine lv_iconst (v := 1) hx hb dX5_readOp_120 zci_1 ?_
      have ho := Option.some.inj hfn
      subst ho
      exact zrz hx hb hr rfl hK hP hD hS hQ ⟨rfl, zB1⟩ hlocks dX5_readOp_121
    have hfn := (if_neg c_10).symm.trans hfn
    refine lv_aload_n hx hb dX5_readOp_32 rfl (lv_at hl 0 rfl) ?_
    refine lv_iconst (v := 2) hx hb dX5_readOp_33 zci_2 ?_
    refine va_put (D := (dC, dI)) (ci := 5) (v := .int 2) (ty := .int) (C := RX5) (T := TX5) (N := 4) hx hb hts zn_X5_readOp_X5 tyX5 tyX5_ok nmX5 hown hK hP hD hS 0 rfl rfl 1 (of_decide_eq_true rfl) (hts (.fieldLink RX5 102 "ShortEnough$Parser" "got" "I") zw_X5_readOp_508) (fun _ h9 => h9) rfl (tyX5_ok 1 (of_decide_eq_true rfl)) rfl rfl (Nat.le_of_ble_eq_true rfl) dX5_readOp_34 (fun H locs hP hD hS => ?_)
    have hP : va_P (dC, dI) vwCl [zV5 h0 r0_0 2 v0_2 v0_3, zV10 r0_0 r1_0 r1_1 v1_2 v1_3 v1_4 v1_5 v1_6 v1_7, zVi r1_1 k2 1200 f2, zVi r1_0 k3 13 f3] H := hP
    have hD := zDW hD hP rfl
    refine lv_goto (tgt := 113) hx hb dX5_readOp_37 (of_decide_eq_true rfl) ?_
    refine lv_aload_n hx hb dX5_readOp_113 rfl (lv_at hl 0 rfl) ?_
    refine va_get (D := (dC, dI)) (ci := 5) (v := .ref r0_0) (C := RX5) (T := TX5) (N := 4) hx hb hts zn_X5_readOp_X5 hown hK hP 0 rfl rfl 0 (of_decide_eq_true rfl) (hts (.fieldLink RX5 12 "ShortEnough$Parser" "words" "LShortEnough$Words;") zw_X5_readOp_505) (fun _ h9 => h9) rfl dX5_readOp_114 ?_
    obtain ⟨o_42, hqo_42, hfn⟩ := zb_s hfn
    refine zcVv (ci := 10) (rest := []) (pc' := 120) (ws' := [zV5 h0 r0_0 2 v0_2 v0_3, zV10 r0_0 r1_0 r1_1 v1_2 o_42.1 o_42.2.1 o_42.2.2.1 o_42.2.2.2.1 o_42.2.2.2.2, zVi r1_1 k2 1200 f2, zVi r1_0 k3 13 f3]) hP hK hD hS hA ⟨hx, hb, hml, hown, hts⟩ (zf_X10_advance l dC dI r0_0 r1_0 r1_1 v1_2 v1_3 v1_4 v1_5 v1_6 v1_7 k2 f2 k3 f3 o_42 hqo_42 H.size) (cwV 0 hts gX5_readOp_X10_advance rfl rfl rfl zhd_X10_advance ⟨Nat.le_of_ble_eq_true rfl, Nat.le_of_ble_eq_true rfl⟩) [1, 2, 3] rfl (of_decide_eq_true rfl) [0, 1] rfl rfl rfl rfl hl.1 rfl (Nat.le_of_ble_eq_true rfl) dX5_readOp_117 ⟨Nat.le_of_ble_eq_true rfl, Nat.le_of_ble_eq_true rfl⟩ [none, some 0, some 1, some 2] (of_decide_eq_true rfl) (of_decide_eq_true rfl) rfl rfl rfl (fun H locs hP hD hS => ?_)
    refine lv_iconst (v := 1) hx hb dX5_readOp_120 zci_1 ?_
    have ho := Option.some.inj hfn
    subst ho
    exact zrz hx hb hr rfl hK hP hD hS hQ ⟨rfl, zB1⟩ hlocks dX5_readOp_121
  have hfn := (if_neg c_5).symm.trans hfn
  refine lv_aload_n hx hb dX5_readOp_12 rfl (lv_at hl 0 rfl) ?_
  refine lv_iconst (v := 1) hx hb dX5_readOp_13 zci_1 ?_
  refine va_put (D := (dC, dI)) (ci := 5) (v := .int 1) (ty := .int) (C := RX5) (T := TX5) (N := 4) hx hb hts zn_X5_readOp_X5 tyX5 tyX5_ok nmX5 hown hK hP hD hS 0 rfl rfl 1 (of_decide_eq_true rfl) (hts (.fieldLink RX5 102 "ShortEnough$Parser" "got" "I") zw_X5_readOp_508) (fun _ h9 => h9) rfl (tyX5_ok 1 (of_decide_eq_true rfl)) rfl rfl (Nat.le_of_ble_eq_true rfl) dX5_readOp_14 (fun H locs hP hD hS => ?_)
  have hP : va_P (dC, dI) vwCl [zV5 h0 r0_0 1 v0_2 v0_3, zV10 r0_0 r1_0 r1_1 v1_2 v1_3 v1_4 v1_5 v1_6 v1_7, zVi r1_1 k2 1200 f2, zVi r1_0 k3 13 f3] H := hP
  have hD := zDW hD hP rfl
  refine lv_goto (tgt := 113) hx hb dX5_readOp_17 (of_decide_eq_true rfl) ?_
  refine lv_aload_n hx hb dX5_readOp_113 rfl (lv_at hl 0 rfl) ?_
  refine va_get (D := (dC, dI)) (ci := 5) (v := .ref r0_0) (C := RX5) (T := TX5) (N := 4) hx hb hts zn_X5_readOp_X5 hown hK hP 0 rfl rfl 0 (of_decide_eq_true rfl) (hts (.fieldLink RX5 12 "ShortEnough$Parser" "words" "LShortEnough$Words;") zw_X5_readOp_505) (fun _ h9 => h9) rfl dX5_readOp_114 ?_
  obtain ⟨o_46, hqo_46, hfn⟩ := zb_s hfn
  refine zcVv (ci := 10) (rest := []) (pc' := 120) (ws' := [zV5 h0 r0_0 1 v0_2 v0_3, zV10 r0_0 r1_0 r1_1 v1_2 o_46.1 o_46.2.1 o_46.2.2.1 o_46.2.2.2.1 o_46.2.2.2.2, zVi r1_1 k2 1200 f2, zVi r1_0 k3 13 f3]) hP hK hD hS hA ⟨hx, hb, hml, hown, hts⟩ (zf_X10_advance l dC dI r0_0 r1_0 r1_1 v1_2 v1_3 v1_4 v1_5 v1_6 v1_7 k2 f2 k3 f3 o_46 hqo_46 H.size) (cwV 0 hts gX5_readOp_X10_advance rfl rfl rfl zhd_X10_advance ⟨Nat.le_of_ble_eq_true rfl, Nat.le_of_ble_eq_true rfl⟩) [1, 2, 3] rfl (of_decide_eq_true rfl) [0, 1] rfl rfl rfl rfl hl.1 rfl (Nat.le_of_ble_eq_true rfl) dX5_readOp_117 ⟨Nat.le_of_ble_eq_true rfl, Nat.le_of_ble_eq_true rfl⟩ [none, some 0, some 1, some 2] (of_decide_eq_true rfl) (of_decide_eq_true rfl) rfl rfl rfl (fun H locs hP hD hS => ?_)
  refine lv_iconst (v := 1) hx hb dX5_readOp_120 zci_1 ?_
  have ho := Option.some.inj hfn
  subst ho
  exact zrz hx hb hr rfl hK hP hD hS hQ ⟨rfl, zB1⟩ hlocks dX5_readOp_121
theorem zn_X5_readLet_X5 : ∀ w ∈ wsX50, w ∈ wsX5_readLet := fun _ h => List.mem_cons_of_mem _ (List.mem_append_left _ (List.mem_append_left _ (List.mem_append_left _ (List.mem_append_right _ h))))
theorem zw_X5_readLet_489 : Cond.fieldLink RX5 102 "ShortEnough$Parser" "got" "I" ∈ wsX5_readLet := List.mem_of_getElem? (i := 1) (by decide +kernel)
theorem zn_X5_readLet_X9 : ∀ w ∈ wsX90, w ∈ wsX5_readLet := fun _ h => List.mem_cons_of_mem _ (List.mem_append_left _ (List.mem_append_left _ (List.mem_append_right _ h)))
theorem zw_X5_readLet_510 : Cond.fieldLink RX5 44 "ShortEnough$Task" "numbers" "LShortEnough$Numbers;" ∈ wsX5_readLet := List.mem_of_getElem? (i := 2) (by decide +kernel)
set_option maxHeartbeats 4000000 in
set_option maxRecDepth 100000 in
theorem zf_X5_readLet (l : Launch) (dC : Nat → ClassId) (dI : Nat → Nat → Nat) (h0 : Nat) (h1 : Nat) (r0_0 : Nat) (v0_1 : Int32) (v0_2 : Int32) (v0_3 : Int32) (r1_0 : Nat) (r1_1 : Nat) (v1_2 : Int32) (v1_3 : Int32) (v1_4 : Int32) (v1_5 : Int32) (v1_6 : Int32) (v1_7 : Int32) (v2_0 : Int32) (r2_1 : Nat) (r2_2 : Nat) (r2_3 : Nat) (r2_4 : Nat) (v2_5 : Int32) (r2_6 : Nat) (r2_7 : Nat) (r2_8 : Nat) (k3 : Nat) (f3 : Nat → Int32) (v4_0 : Int32) (v4_1 : Int32) (r4_2 : Nat) (r4_3 : Nat) (r4_4 : Nat) (r4_5 : Nat) (r4_6 : Nat) (r4_7 : Nat) (r4_8 : Nat) (r4_9 : Nat) (k5 : Nat) (f5 : Nat → Int32) (k6 : Nat) (f6 : Nat → Int32) (k7 : Nat) (f7 : Nat → Int32) (k8 : Nat) (f8 : Nat → Int32) (k9 : Nat) (f9 : Nat → Int32) (k10 : Nat) (f10 : Nat → Int32) (k11 : Nat) (f11 : Nat → Int32) (k12 : Nat) (f12 : Nat → Int32) (k13 : Nat) (f13 : Nat → Int32) (k14 : Nat) (f14 : Nat → Int32) (o : Int32 × Int32 × Int32 × Int32 × Int32 × Int32 × Int32 × Int32 × Int32 × Int32 × Int32 × (Nat → Int32) × (Nat → Int32) × (Nat → Int32) × (Nat → Int32) × (Nat → Int32) × (Nat → Int32) × (Nat → Int32) × (Nat → Int32)) (hfn : fn_X5_readLet v0_1 v0_2 v0_3 v1_2 v1_3 v1_4 v1_5 v1_6 v1_7 v2_0 f3 v4_0 v4_1 f5 f6 f7 f8 f9 f10 f11 f12 f13 f14 = some o) (sz : Nat) : zMi l yX5_readLet wsX5_readLet ({ frames := 4, cells := 0, slots := 0, locals := 95 }) (dC, dI) vwCl [.ref h0, .ref h1] [zV5 h0 r0_0 v0_1 v0_2 v0_3, zV10 r0_0 r1_0 r1_1 v1_2 v1_3 v1_4 v1_5 v1_6 v1_7, zV9 h1 v2_0 r2_1 r2_2 r2_3 r2_4 v2_5 r2_6 r2_7 r2_8, zVi r2_1 k3 4 f3, zV4 r2_6 v4_0 v4_1 r4_2 r4_3 r4_4 r4_5 r4_6 r4_7 r4_8 r4_9, zVi r4_2 k5 14 f5, zVi r1_1 k6 1200 f6, zVi r1_0 k7 13 f7, zVi r4_8 k8 28 f8, zVi r4_9 k9 28 f9, zVi r4_3 k10 14 f10, zVi r4_4 k11 14 f11, zVi r4_5 k12 14 f12, zVi r4_7 k13 14 f13, zVi r4_6 k14 14 f14] [(k3, .int), (k5, .int), (k6, .byte), (k7, .int), (k8, .int), (k9, .int), (k10, .int), (k11, .int), (k12, .int), (k13, .int), (k14, .int)] (fun r _ => r = o.1 ∧ narrow .boolean (.int o.1) = .int o.1) [zV5 h0 r0_0 o.2.1 o.2.2.1 o.2.2.2.1, zV10 r0_0 r1_0 r1_1 v1_2 o.2.2.2.2.1 o.2.2.2.2.2.1 o.2.2.2.2.2.2.1 o.2.2.2.2.2.2.2.1 o.2.2.2.2.2.2.2.2.1, zV9 h1 v2_0 r2_1 r2_2 r2_3 r2_4 v2_5 r2_6 r2_7 r2_8, zVi r2_1 k3 4 f3, zV4 r2_6 o.2.2.2.2.2.2.2.2.2.1 o.2.2.2.2.2.2.2.2.2.2.1 r4_2 r4_3 r4_4 r4_5 r4_6 r4_7 r4_8 r4_9, zVi r4_2 k5 14 o.2.2.2.2.2.2.2.2.2.2.2.1, zVi r1_1 k6 1200 f6, zVi r1_0 k7 13 f7, zVi r4_8 k8 28 o.2.2.2.2.2.2.2.2.2.2.2.2.1, zVi r4_9 k9 28 o.2.2.2.2.2.2.2.2.2.2.2.2.2.1, zVi r4_3 k10 14 o.2.2.2.2.2.2.2.2.2.2.2.2.2.2.1, zVi r4_4 k11 14 o.2.2.2.2.2.2.2.2.2.2.2.2.2.2.2.1, zVi r4_5 k12 14 o.2.2.2.2.2.2.2.2.2.2.2.2.2.2.2.2.1, zVi r4_7 k13 14 o.2.2.2.2.2.2.2.2.2.2.2.2.2.2.2.2.2.1, zVi r4_6 k14 14 o.2.2.2.2.2.2.2.2.2.2.2.2.2.2.2.2.2.2] [(k3, .int), (k5, .int), (k6, .byte), (k7, .int), (k8, .int), (k9, .int), (k10, .int), (k11, .int), (k12, .int), (k13, .int), (k14, .int)] sz := by
  refine zgoi (cc := cX5_readLet) (maxL := 4) (ret := (some .boolean)) (C0 := RX5) (lv0 := [(0, .ref h0), (1, .ref h1)]) zpl_X5 rfl rfl rfl (Nat.le_of_ble_eq_true rfl) ?_
  intro p e s m below meth c A ls Q hx hb hr hts hown hlocks hml hP hK hD hA hS hl hQ
  unfold fn_X5_readLet at hfn
  refine lv_aload_n hx hb dX5_readLet_0 rfl (lv_at hl 0 rfl) ?_
  refine lv_aload_n hx hb dX5_readLet_1 rfl (lv_at hl 1 rfl) ?_
  obtain ⟨o_1, hqo_1, hfn⟩ := zb_s hfn
  refine zcVb (ci := 5) (rest := []) (pc' := 5) (ws' := [zV5 h0 r0_0 o_1.2.1 o_1.2.2.1 o_1.2.2.2.1, zV10 r0_0 r1_0 r1_1 v1_2 o_1.2.2.2.2.1 o_1.2.2.2.2.2.1 o_1.2.2.2.2.2.2.1 o_1.2.2.2.2.2.2.2.1 o_1.2.2.2.2.2.2.2.2, zV9 h1 v2_0 r2_1 r2_2 r2_3 r2_4 v2_5 r2_6 r2_7 r2_8, zVi r2_1 k3 4 f3, zV4 r2_6 v4_0 v4_1 r4_2 r4_3 r4_4 r4_5 r4_6 r4_7 r4_8 r4_9, zVi r4_2 k5 14 f5, zVi r1_1 k6 1200 f6, zVi r1_0 k7 13 f7, zVi r4_8 k8 28 f8, zVi r4_9 k9 28 f9, zVi r4_3 k10 14 f10, zVi r4_4 k11 14 f11, zVi r4_5 k12 14 f12, zVi r4_7 k13 14 f13, zVi r4_6 k14 14 f14]) hP hK hD hS hA ⟨hx, hb, hml, hown, hts⟩ (zf_X5_readNewName l dC dI h0 h1 r0_0 v0_1 v0_2 v0_3 r1_0 r1_1 v1_2 v1_3 v1_4 v1_5 v1_6 v1_7 v2_0 r2_1 r2_2 r2_3 r2_4 v2_5 r2_6 r2_7 r2_8 k3 f3 v4_0 v4_1 r4_2 r4_3 r4_4 r4_5 r4_6 r4_7 r4_8 r4_9 k5 f5 k6 f6 k7 f7 o_1 hqo_1 s.heap.size) (cwV 1 hts gX5_readLet_X5_readNewName rfl rfl rfl zhd_X5_readNewName ⟨Nat.le_of_ble_eq_true rfl, Nat.le_of_ble_eq_true rfl⟩) [0, 1, 2, 3, 4, 5, 6, 7] rfl (of_decide_eq_true rfl) [0, 1, 2, 3] rfl rfl rfl rfl hl.1 rfl (Nat.le_of_ble_eq_true rfl) dX5_readLet_2 ⟨Nat.le_of_ble_eq_true rfl, Nat.le_of_ble_eq_true rfl⟩ [some 0, some 1, some 2, some 3, some 4, some 5, some 6, some 7] (of_decide_eq_true rfl) (of_decide_eq_true rfl) rfl rfl rfl (fun H locs hw_4n hP hD hS => ?_)
  refine lv_if_ne (tgt := 10) hx hb dX5_readLet_5 (of_decide_eq_true rfl) (fun c_5 => ?_) (fun c_5 => ?_)
  · have hfn := (if_neg c_5).symm.trans hfn
    refine lv_aload_n hx hb dX5_readLet_10 rfl (lv_at hl 0 rfl) ?_
    refine va_get (D := (dC, dI)) (ci := 5) (v := .int o_1.2.1) (C := RX5) (T := TX5) (N := 4) hx hb hts zn_X5_readLet_X5 hown hK hP 0 rfl rfl 1 (of_decide_eq_true rfl) (hts (.fieldLink RX5 102 "ShortEnough$Parser" "got" "I") zw_X5_readLet_489) (fun _ h9 => h9) rfl dX5_readLet_11 ?_
    refine lv_istore_n (lv' := [(2, .int o_1.2.1), (0, .ref h0), (1, .ref h1)]) hx hb dX5_readLet_14 rfl hl (of_decide_eq_true rfl) rfl (fun ls hl => ?_)
    refine lv_aload_n hx hb dX5_readLet_15 rfl (lv_at hl 1 rfl) ?_
    refine lv_bipush (v := 61) hx hb dX5_readLet_16 zcb_61 ?_
    obtain ⟨o_6, hqo_6, hfn⟩ := zb_s hfn
    refine zcVb (ci := 5) (rest := []) (pc' := 21) (ws' := [zV5 h0 r0_0 o_1.2.1 o_6.2.1 o_6.2.2.1, zV10 r0_0 r1_0 r1_1 v1_2 o_6.2.2.2.1 o_6.2.2.2.2.1 o_6.2.2.2.2.2.1 o_6.2.2.2.2.2.2.1 o_6.2.2.2.2.2.2.2, zV9 h1 v2_0 r2_1 r2_2 r2_3 r2_4 v2_5 r2_6 r2_7 r2_8, zVi r2_1 k3 4 f3, zV4 r2_6 v4_0 v4_1 r4_2 r4_3 r4_4 r4_5 r4_6 r4_7 r4_8 r4_9, zVi r4_2 k5 14 f5, zVi r1_1 k6 1200 f6, zVi r1_0 k7 13 f7, zVi r4_8 k8 28 f8, zVi r4_9 k9 28 f9, zVi r4_3 k10 14 f10, zVi r4_4 k11 14 f11, zVi r4_5 k12 14 f12, zVi r4_7 k13 14 f13, zVi r4_6 k14 14 f14]) hP hK hD hS hA ⟨hx, hb, hml, hown, hts⟩ (zf_X5_readSign l dC dI h0 61 r0_0 o_1.2.1 o_1.2.2.1 o_1.2.2.2.1 r1_0 r1_1 v1_2 o_1.2.2.2.2.1 o_1.2.2.2.2.2.1 o_1.2.2.2.2.2.2.1 o_1.2.2.2.2.2.2.2.1 o_1.2.2.2.2.2.2.2.2 k6 f6 k7 f7 o_6 hqo_6 H.size) (cwV 1 hts gX5_readLet_X5_readSign rfl rfl rfl zhd_X5_readSign ⟨Nat.le_of_ble_eq_true rfl, Nat.le_of_ble_eq_true rfl⟩) [0, 1, 6, 7] rfl (of_decide_eq_true rfl) [2, 3] rfl rfl rfl rfl hl.1 rfl (Nat.le_of_ble_eq_true rfl) dX5_readLet_18 ⟨Nat.le_of_ble_eq_true rfl, Nat.le_of_ble_eq_true rfl⟩ [some 0, some 1, none, none, none, none, some 2, some 3] (of_decide_eq_true rfl) (of_decide_eq_true rfl) rfl rfl rfl (fun H locs hw_9n hP hD hS => ?_)
    refine lv_if_eq (tgt := 40) hx hb dX5_readLet_21 (of_decide_eq_true rfl) (fun c_10 => ?_) (fun c_10 => ?_)
    · have hfn := (if_pos c_10).symm.trans hfn
      refine lv_iconst (v := 0) hx hb dX5_readLet_40 zci_0 ?_
      have ho := Option.some.inj hfn
      subst ho
      exact zrz hx hb hr rfl hK hP hD hS hQ ⟨rfl, zB0⟩ hlocks dX5_readLet_41
    have hfn := (if_neg c_10).symm.trans hfn
    refine lv_aload_n hx hb dX5_readLet_24 rfl (lv_at hl 1 rfl) ?_
    refine lv_aload_n hx hb dX5_readLet_25 rfl (lv_at hl 2 rfl) ?_
    refine lv_iconst (v := 0) hx hb dX5_readLet_26 zci_0 ?_
    obtain ⟨o_11, hqo_11, hfn⟩ := zb_s hfn
    refine zcVb (ci := 5) (rest := []) (pc' := 30) (ws' := [zV5 h0 r0_0 o_11.2.1 o_11.2.2.1 o_11.2.2.2.1, zV10 r0_0 r1_0 r1_1 v1_2 o_11.2.2.2.2.1 o_11.2.2.2.2.2.1 o_11.2.2.2.2.2.2.1 o_11.2.2.2.2.2.2.2.1 o_11.2.2.2.2.2.2.2.2.1, zV9 h1 v2_0 r2_1 r2_2 r2_3 r2_4 v2_5 r2_6 r2_7 r2_8, zVi r2_1 k3 4 f3, zV4 r2_6 v4_0 v4_1 r4_2 r4_3 r4_4 r4_5 r4_6 r4_7 r4_8 r4_9, zVi r4_2 k5 14 f5, zVi r1_1 k6 1200 f6, zVi r1_0 k7 13 f7, zVi r4_8 k8 28 o_11.2.2.2.2.2.2.2.2.2.1, zVi r4_9 k9 28 o_11.2.2.2.2.2.2.2.2.2.2, zVi r4_3 k10 14 f10, zVi r4_4 k11 14 f11, zVi r4_5 k12 14 f12, zVi r4_7 k13 14 f13, zVi r4_6 k14 14 f14]) hP hK hD hS hA ⟨hx, hb, hml, hown, hts⟩ (zf_X5_readWhat l dC dI h0 h1 0 r0_0 o_1.2.1 o_6.2.1 o_6.2.2.1 r1_0 r1_1 v1_2 o_6.2.2.2.1 o_6.2.2.2.2.1 o_6.2.2.2.2.2.1 o_6.2.2.2.2.2.2.1 o_6.2.2.2.2.2.2.2 k6 f6 k7 f7 v2_0 r2_1 r2_2 r2_3 r2_4 v2_5 r2_6 r2_7 r2_8 v4_0 v4_1 r4_2 r4_3 r4_4 r4_5 r4_6 r4_7 r4_8 r4_9 k8 f8 k9 f9 k5 f5 o_11 hqo_11 H.size) (cwV 2 hts gX5_readLet_X5_readWhat rfl rfl rfl zhd_X5_readWhat ⟨Nat.le_of_ble_eq_true rfl, Nat.le_of_ble_eq_true rfl⟩) [0, 1, 6, 7, 2, 4, 8, 9, 5] rfl (of_decide_eq_true rfl) [2, 3, 4, 5, 1] rfl rfl rfl rfl hl.1 rfl (Nat.le_of_ble_eq_true rfl) dX5_readLet_27 ⟨Nat.le_of_ble_eq_true rfl, Nat.le_of_ble_eq_true rfl⟩ [some 0, some 1, some 4, none, some 5, some 8, some 2, some 3, some 6, some 7] (of_decide_eq_true rfl) (of_decide_eq_true rfl) rfl rfl rfl (fun H locs hw_14n hP hD hS => ?_)
    refine lv_if_eq (tgt := 40) hx hb dX5_readLet_30 (of_decide_eq_true rfl) (fun c_15 => ?_) (fun c_15 => ?_)
    · have hfn := (if_pos c_15).symm.trans hfn
      refine lv_iconst (v := 0) hx hb dX5_readLet_40 zci_0 ?_
      have ho := Option.some.inj hfn
      subst ho
      exact zrz hx hb hr rfl hK hP hD hS hQ ⟨rfl, zB0⟩ hlocks dX5_readLet_41
    have hfn := (if_neg c_15).symm.trans hfn
    refine lv_aload_n hx hb dX5_readLet_33 rfl (lv_at hl 1 rfl) ?_
    obtain ⟨o_16, hqo_16, hfn⟩ := zb_s hfn
    refine zcVb (ci := 5) (rest := []) (pc' := 37) (ws' := [zV5 h0 r0_0 o_16.2.1 o_16.2.2.1 o_16.2.2.2.1, zV10 r0_0 r1_0 r1_1 v1_2 o_16.2.2.2.2.1 o_16.2.2.2.2.2.1 o_16.2.2.2.2.2.2.1 o_16.2.2.2.2.2.2.2.1 o_16.2.2.2.2.2.2.2.2, zV9 h1 v2_0 r2_1 r2_2 r2_3 r2_4 v2_5 r2_6 r2_7 r2_8, zVi r2_1 k3 4 f3, zV4 r2_6 v4_0 v4_1 r4_2 r4_3 r4_4 r4_5 r4_6 r4_7 r4_8 r4_9, zVi r4_2 k5 14 f5, zVi r1_1 k6 1200 f6, zVi r1_0 k7 13 f7, zVi r4_8 k8 28 o_11.2.2.2.2.2.2.2.2.2.1, zVi r4_9 k9 28 o_11.2.2.2.2.2.2.2.2.2.2, zVi r4_3 k10 14 f10, zVi r4_4 k11 14 f11, zVi r4_5 k12 14 f12, zVi r4_7 k13 14 f13, zVi r4_6 k14 14 f14]) hP hK hD hS hA ⟨hx, hb, hml, hown, hts⟩ (zf_X5_readOp l dC dI h0 r0_0 o_11.2.1 o_11.2.2.1 o_11.2.2.2.1 r1_0 r1_1 v1_2 o_11.2.2.2.2.1 o_11.2.2.2.2.2.1 o_11.2.2.2.2.2.2.1 o_11.2.2.2.2.2.2.2.1 o_11.2.2.2.2.2.2.2.2.1 k6 f6 k7 f7 o_16 hqo_16 H.size) (cwV 0 hts gX5_readLet_X5_readOp rfl rfl rfl zhd_X5_readOp ⟨Nat.le_of_ble_eq_true rfl, Nat.le_of_ble_eq_true rfl⟩) [0, 1, 6, 7] rfl (of_decide_eq_true rfl) [2, 3] rfl rfl rfl rfl hl.1 rfl (Nat.le_of_ble_eq_true rfl) dX5_readLet_34 ⟨Nat.le_of_ble_eq_true rfl, Nat.le_of_ble_eq_true rfl⟩ [some 0, some 1, none, none, none, none, some 2, some 3] (of_decide_eq_true rfl) (of_decide_eq_true rfl) rfl rfl rfl (fun H locs hw_19n hP hD hS => ?_)
    refine lv_if_ne (tgt := 42) hx hb dX5_readLet_37 (of_decide_eq_true rfl) (fun c_20 => ?_) (fun c_20 => ?_)
    · have hfn := (if_neg c_20).symm.trans hfn
      refine lv_aload_n hx hb dX5_readLet_42 rfl (lv_at hl 1 rfl) ?_
      refine va_get (D := (dC, dI)) (ci := 5) (v := .int o_16.2.1) (C := RX5) (T := TX5) (N := 4) hx hb hts zn_X5_readLet_X5 hown hK hP 0 rfl rfl 1 (of_decide_eq_true rfl) (hts (.fieldLink RX5 102 "ShortEnough$Parser" "got" "I") zw_X5_readLet_489) (fun _ h9 => h9) rfl dX5_readLet_43 ?_
      refine lv_istore_n (lv' := [(3, .int o_16.2.1), (2, .int o_1.2.1), (0, .ref h0), (1, .ref h1)]) hx hb dX5_readLet_46 rfl hl (of_decide_eq_true rfl) rfl (fun ls hl => ?_)
      refine lv_aload_n hx hb dX5_readLet_47 rfl (lv_at hl 2 rfl) ?_
      refine lv_aload_n hx hb dX5_readLet_48 rfl (lv_at hl 3 rfl) ?_
      refine lv_iconst (v := 1) hx hb dX5_readLet_49 zci_1 ?_
      obtain ⟨o_21, hqo_21, hfn⟩ := zb_s hfn
      refine zcVb (ci := 5) (rest := []) (pc' := 53) (ws' := [zV5 h0 r0_0 o_21.2.1 o_21.2.2.1 o_21.2.2.2.1, zV10 r0_0 r1_0 r1_1 v1_2 o_21.2.2.2.2.1 o_21.2.2.2.2.2.1 o_21.2.2.2.2.2.2.1 o_21.2.2.2.2.2.2.2.1 o_21.2.2.2.2.2.2.2.2.1, zV9 h1 v2_0 r2_1 r2_2 r2_3 r2_4 v2_5 r2_6 r2_7 r2_8, zVi r2_1 k3 4 f3, zV4 r2_6 v4_0 v4_1 r4_2 r4_3 r4_4 r4_5 r4_6 r4_7 r4_8 r4_9, zVi r4_2 k5 14 f5, zVi r1_1 k6 1200 f6, zVi r1_0 k7 13 f7, zVi r4_8 k8 28 o_21.2.2.2.2.2.2.2.2.2.1, zVi r4_9 k9 28 o_21.2.2.2.2.2.2.2.2.2.2, zVi r4_3 k10 14 f10, zVi r4_4 k11 14 f11, zVi r4_5 k12 14 f12, zVi r4_7 k13 14 f13, zVi r4_6 k14 14 f14]) hP hK hD hS hA ⟨hx, hb, hml, hown, hts⟩ (zf_X5_readWhat l dC dI h0 h1 1 r0_0 o_16.2.1 o_16.2.2.1 o_16.2.2.2.1 r1_0 r1_1 v1_2 o_16.2.2.2.2.1 o_16.2.2.2.2.2.1 o_16.2.2.2.2.2.2.1 o_16.2.2.2.2.2.2.2.1 o_16.2.2.2.2.2.2.2.2 k6 f6 k7 f7 v2_0 r2_1 r2_2 r2_3 r2_4 v2_5 r2_6 r2_7 r2_8 v4_0 v4_1 r4_2 r4_3 r4_4 r4_5 r4_6 r4_7 r4_8 r4_9 k8 o_11.2.2.2.2.2.2.2.2.2.1 k9 o_11.2.2.2.2.2.2.2.2.2.2 k5 f5 o_21 hqo_21 H.size) (cwV 2 hts gX5_readLet_X5_readWhat rfl rfl rfl zhd_X5_readWhat ⟨Nat.le_of_ble_eq_true rfl, Nat.le_of_ble_eq_true rfl⟩) [0, 1, 6, 7, 2, 4, 8, 9, 5] rfl (of_decide_eq_true rfl) [2, 3, 4, 5, 1] rfl rfl rfl rfl hl.1 rfl (Nat.le_of_ble_eq_true rfl) dX5_readLet_50 ⟨Nat.le_of_ble_eq_true rfl, Nat.le_of_ble_eq_true rfl⟩ [some 0, some 1, some 4, none, some 5, some 8, some 2, some 3, some 6, some 7] (of_decide_eq_true rfl) (of_decide_eq_true rfl) rfl rfl rfl (fun H locs hw_24n hP hD hS => ?_)
      refine lv_if_ne (tgt := 58) hx hb dX5_readLet_53 (of_decide_eq_true rfl) (fun c_25 => ?_) (fun c_25 => ?_)
      · have hfn := (if_neg c_25).symm.trans hfn
        refine lv_aload_n hx hb dX5_readLet_58 rfl (lv_at hl 3 rfl) ?_
        refine va_get (D := (dC, dI)) (ci := 9) (v := .ref r2_6) (C := RX9) (T := TX9) (N := 9) hx hb hts zn_X5_readLet_X9 hown hK hP 2 rfl rfl 6 (of_decide_eq_true rfl) (hts (.fieldLink RX5 44 "ShortEnough$Task" "numbers" "LShortEnough$Numbers;") zw_X5_readLet_510) (fun _ h9 => h9) rfl dX5_readLet_59 ?_
        refine lv_iload_n hx hb dX5_readLet_62 rfl (lv_at hl 1 rfl) ?_
        refine lv_iload_n hx hb dX5_readLet_63 rfl (lv_at hl 0 rfl) ?_
        obtain ⟨o_26, hqo_26, hfn⟩ := zb_s hfn
        refine zcVv (ci := 4) (rest := []) (pc' := 67) (ws' := [zV5 h0 r0_0 o_21.2.1 o_21.2.2.1 o_21.2.2.2.1, zV10 r0_0 r1_0 r1_1 v1_2 o_21.2.2.2.2.1 o_21.2.2.2.2.2.1 o_21.2.2.2.2.2.2.1 o_21.2.2.2.2.2.2.2.1 o_21.2.2.2.2.2.2.2.2.1, zV9 h1 v2_0 r2_1 r2_2 r2_3 r2_4 v2_5 r2_6 r2_7 r2_8, zVi r2_1 k3 4 f3, zV4 r2_6 o_26.1 o_26.2.1 r4_2 r4_3 r4_4 r4_5 r4_6 r4_7 r4_8 r4_9, zVi r4_2 k5 14 o_26.2.2.1, zVi r1_1 k6 1200 f6, zVi r1_0 k7 13 f7, zVi r4_8 k8 28 o_21.2.2.2.2.2.2.2.2.2.1, zVi r4_9 k9 28 o_21.2.2.2.2.2.2.2.2.2.2, zVi r4_3 k10 14 o_26.2.2.2.1, zVi r4_4 k11 14 o_26.2.2.2.2.1, zVi r4_5 k12 14 o_26.2.2.2.2.2.1, zVi r4_7 k13 14 o_26.2.2.2.2.2.2.1, zVi r4_6 k14 14 o_26.2.2.2.2.2.2.2]) hP hK hD hS hA ⟨hx, hb, hml, hown, hts⟩ (zf_X4_add l dC dI r2_6 o_1.2.1 o_16.2.1 v4_0 v4_1 r4_2 r4_3 r4_4 r4_5 r4_6 r4_7 r4_8 r4_9 k5 f5 k10 f10 k11 f11 k12 f12 k13 f13 k8 o_21.2.2.2.2.2.2.2.2.2.1 k14 f14 o_26 hqo_26 H.size) (cwV 2 hts gX5_readLet_X4_add rfl rfl rfl zhd_X4_add ⟨Nat.le_of_ble_eq_true rfl, Nat.le_of_ble_eq_true rfl⟩) [4, 5, 10, 11, 12, 13, 8, 14] rfl (of_decide_eq_true rfl) [1, 6, 7, 8, 9, 4, 10] rfl rfl rfl rfl hl.1 rfl (Nat.le_of_ble_eq_true rfl) dX5_readLet_64 ⟨Nat.le_of_ble_eq_true rfl, Nat.le_of_ble_eq_true rfl⟩ [none, none, none, none, some 0, some 1, none, none, some 6, none, some 2, some 3, some 4, some 5, some 7] (of_decide_eq_true rfl) (of_decide_eq_true rfl) rfl rfl rfl (fun H locs hP hD hS => ?_)
        refine lv_iconst (v := 1) hx hb dX5_readLet_67 zci_1 ?_
        have ho := Option.some.inj hfn
        subst ho
        exact zrz hx hb hr rfl hK hP hD hS hQ ⟨rfl, zB1⟩ hlocks dX5_readLet_68
      have hfn := (if_pos c_25).symm.trans hfn
      refine lv_iconst (v := 0) hx hb dX5_readLet_56 zci_0 ?_
      have ho := Option.some.inj hfn
      subst ho
      exact zrz hx hb hr rfl hK hP hD hS hQ ⟨rfl, zB0⟩ hlocks dX5_readLet_57
    have hfn := (if_pos c_20).symm.trans hfn
    refine lv_iconst (v := 0) hx hb dX5_readLet_40 zci_0 ?_
    have ho := Option.some.inj hfn
    subst ho
    exact zrz hx hb hr rfl hK hP hD hS hQ ⟨rfl, zB0⟩ hlocks dX5_readLet_41
  have hfn := (if_pos c_5).symm.trans hfn
  refine lv_iconst (v := 0) hx hb dX5_readLet_8 zci_0 ?_
  have ho := Option.some.inj hfn
  subst ho
  exact zrz hx hb hr rfl hK hP hD hS hQ ⟨rfl, zB0⟩ hlocks dX5_readLet_9
theorem zn_X5_readFixed_X9 : ∀ w ∈ wsX90, w ∈ wsX5_readFixed := fun _ h => List.mem_cons_of_mem _ (List.mem_append_left _ (List.mem_append_left _ (List.mem_append_left _ (List.mem_append_right _ h))))
theorem zw_X5_readFixed_512 : Cond.fieldLink RX5 44 "ShortEnough$Task" "numbers" "LShortEnough$Numbers;" ∈ wsX5_readFixed := List.mem_of_getElem? (i := 1) (by decide +kernel)
theorem zn_X5_readFixed_X5 : ∀ w ∈ wsX50, w ∈ wsX5_readFixed := fun _ h => List.mem_cons_of_mem _ (List.mem_append_left _ (List.mem_append_left _ (List.mem_append_right _ h)))
theorem zw_X5_readFixed_514 : Cond.fieldLink RX5 12 "ShortEnough$Parser" "words" "LShortEnough$Words;" ∈ wsX5_readFixed := List.mem_of_getElem? (i := 2) (by decide +kernel)
theorem zn_X5_readFixed_X10 : ∀ w ∈ wsX100, w ∈ wsX5_readFixed := fun _ h => List.mem_cons_of_mem _ (List.mem_append_left _ (List.mem_append_right _ h))
theorem zw_X5_readFixed_516 : Cond.fieldLink RX5 138 "ShortEnough$Words" "value" "I" ∈ wsX5_readFixed := List.mem_of_getElem? (i := 3) (by decide +kernel)
theorem zw_X5_readFixed_517 : Cond.fieldLink RX5 102 "ShortEnough$Parser" "got" "I" ∈ wsX5_readFixed := List.mem_of_getElem? (i := 4) (by decide +kernel)
set_option maxHeartbeats 4000000 in
set_option maxRecDepth 100000 in
theorem zf_X5_readFixed (l : Launch) (dC : Nat → ClassId) (dI : Nat → Nat → Nat) (h0 : Nat) (h1 : Nat) (r0_0 : Nat) (v0_1 : Int32) (v0_2 : Int32) (v0_3 : Int32) (v1_0 : Int32) (r1_1 : Nat) (r1_2 : Nat) (r1_3 : Nat) (r1_4 : Nat) (v1_5 : Int32) (r1_6 : Nat) (r1_7 : Nat) (r1_8 : Nat) (r2_0 : Nat) (r2_1 : Nat) (v2_2 : Int32) (v2_3 : Int32) (v2_4 : Int32) (v2_5 : Int32) (v2_6 : Int32) (v2_7 : Int32) (v3_0 : Int32) (v3_1 : Int32) (r3_2 : Nat) (r3_3 : Nat) (r3_4 : Nat) (r3_5 : Nat) (r3_6 : Nat) (r3_7 : Nat) (r3_8 : Nat) (r3_9 : Nat) (k4 : Nat) (f4 : Nat → Int32) (k5 : Nat) (f5 : Nat → Int32) (k6 : Nat) (f6 : Nat → Int32) (k7 : Nat) (f7 : Nat → Int32) (k8 : Nat) (f8 : Nat → Int32) (o : Int32 × Int32 × Int32 × Int32 × Int32 × Int32 × Int32 × Int32 × Int32 × (Nat → Int32)) (hfn : fn_X5_readFixed v0_1 v0_2 v0_3 v1_0 v2_2 v2_3 v2_4 v2_5 v2_6 v2_7 v3_0 f4 f5 f6 f7 f8 = some o) (sz : Nat) : zMi l yX5_readFixed wsX5_readFixed ({ frames := 3, cells := 0, slots := 0, locals := 67 }) (dC, dI) vwCl [.ref h0, .ref h1] [zV5 h0 r0_0 v0_1 v0_2 v0_3, zV9 h1 v1_0 r1_1 r1_2 r1_3 r1_4 v1_5 r1_6 r1_7 r1_8, zV10 r0_0 r2_0 r2_1 v2_2 v2_3 v2_4 v2_5 v2_6 v2_7, zV4 r1_6 v3_0 v3_1 r3_2 r3_3 r3_4 r3_5 r3_6 r3_7 r3_8 r3_9, zVi r3_2 k4 14 f4, zVi r2_1 k5 1200 f5, zVi r2_0 k6 13 f6, zVi r1_1 k7 4 f7, zVi r3_4 k8 14 f8] [(k4, .int), (k5, .byte), (k6, .int), (k7, .int), (k8, .int)] (fun r _ => r = o.1 ∧ narrow .boolean (.int o.1) = .int o.1) [zV5 h0 r0_0 o.2.1 o.2.2.1 o.2.2.2.1, zV9 h1 v1_0 r1_1 r1_2 r1_3 r1_4 v1_5 r1_6 r1_7 r1_8, zV10 r0_0 r2_0 r2_1 v2_2 o.2.2.2.2.1 o.2.2.2.2.2.1 o.2.2.2.2.2.2.1 o.2.2.2.2.2.2.2.1 o.2.2.2.2.2.2.2.2.1, zV4 r1_6 v3_0 v3_1 r3_2 r3_3 r3_4 r3_5 r3_6 r3_7 r3_8 r3_9, zVi r3_2 k4 14 f4, zVi r2_1 k5 1200 f5, zVi r2_0 k6 13 f6, zVi r1_1 k7 4 f7, zVi r3_4 k8 14 o.2.2.2.2.2.2.2.2.2] [(k4, .int), (k5, .byte), (k6, .int), (k7, .int), (k8, .int)] sz := by
  refine zgoi (cc := cX5_readFixed) (maxL := 3) (ret := (some .boolean)) (C0 := RX5) (lv0 := [(0, .ref h0), (1, .ref h1)]) zpl_X5 rfl rfl rfl (Nat.le_of_ble_eq_true rfl) ?_
  intro p e s m below meth c A ls Q hx hb hr hts hown hlocks hml hP hK hD hA hS hl hQ
  unfold fn_X5_readFixed at hfn
  refine lv_aload_n hx hb dX5_readFixed_0 rfl (lv_at hl 0 rfl) ?_
  refine lv_aload_n hx hb dX5_readFixed_1 rfl (lv_at hl 1 rfl) ?_
  refine va_get (D := (dC, dI)) (ci := 9) (v := .ref r1_6) (C := RX9) (T := TX9) (N := 9) hx hb hts zn_X5_readFixed_X9 hown hK hP 1 rfl rfl 6 (of_decide_eq_true rfl) (hts (.fieldLink RX5 44 "ShortEnough$Task" "numbers" "LShortEnough$Numbers;") zw_X5_readFixed_512) (fun _ h9 => h9) rfl dX5_readFixed_2 ?_
  refine lv_aload_n hx hb dX5_readFixed_5 rfl (lv_at hl 0 rfl) ?_
  refine va_get (D := (dC, dI)) (ci := 5) (v := .ref r0_0) (C := RX5) (T := TX5) (N := 4) hx hb hts zn_X5_readFixed_X5 hown hK hP 0 rfl rfl 0 (of_decide_eq_true rfl) (hts (.fieldLink RX5 12 "ShortEnough$Parser" "words" "LShortEnough$Words;") zw_X5_readFixed_514) (fun _ h9 => h9) rfl dX5_readFixed_6 ?_
  refine va_get (D := (dC, dI)) (ci := 10) (v := .int v2_6) (C := RX10) (T := TX10) (N := 8) hx hb hts zn_X5_readFixed_X10 hown hK hP 2 rfl rfl 6 (of_decide_eq_true rfl) (hts (.fieldLink RX5 138 "ShortEnough$Words" "value" "I") zw_X5_readFixed_516) (fun _ h9 => h9) rfl dX5_readFixed_9 ?_
  obtain ⟨o_1, hqo_1, hfn⟩ := zb_s hfn
  refine zcVi (ci := 4) (rest := [.ref h0]) (pc' := 15) (ws' := [zV5 h0 r0_0 v0_1 v0_2 v0_3, zV9 h1 v1_0 r1_1 r1_2 r1_3 r1_4 v1_5 r1_6 r1_7 r1_8, zV10 r0_0 r2_0 r2_1 v2_2 v2_3 v2_4 v2_5 v2_6 v2_7, zV4 r1_6 v3_0 v3_1 r3_2 r3_3 r3_4 r3_5 r3_6 r3_7 r3_8 r3_9, zVi r3_2 k4 14 f4, zVi r2_1 k5 1200 f5, zVi r2_0 k6 13 f6, zVi r1_1 k7 4 f7, zVi r3_4 k8 14 f8]) hP hK hD hS hA ⟨hx, hb, hml, hown, hts⟩ (zf_X4_find l dC dI r1_6 v2_6 v3_0 v3_1 r3_2 r3_3 r3_4 r3_5 r3_6 r3_7 r3_8 r3_9 k4 f4 o_1 hqo_1 s.heap.size) (cwV 1 hts gX5_readFixed_X4_find rfl rfl rfl zhd_X4_find ⟨Nat.le_of_ble_eq_true rfl, Nat.le_of_ble_eq_true rfl⟩) [3, 4] rfl (of_decide_eq_true rfl) [0] rfl rfl rfl rfl hl.1 rfl (Nat.le_of_ble_eq_true rfl) dX5_readFixed_12 ⟨Nat.le_of_ble_eq_true rfl, Nat.le_of_ble_eq_true rfl⟩ [none, none, none, some 0, some 1] (of_decide_eq_true rfl) (of_decide_eq_true rfl) rfl rfl rfl (fun H locs hP hD hS => ?_)
  obtain ⟨o_5, hqo_5, hfn⟩ := zb_s hfn
  refine zcVb (ci := 5) (rest := []) (pc' := 18) (ws' := [zV5 h0 r0_0 o_5.2.1 o_5.2.2.1 o_5.2.2.2.1, zV9 h1 v1_0 r1_1 r1_2 r1_3 r1_4 v1_5 r1_6 r1_7 r1_8, zV10 r0_0 r2_0 r2_1 v2_2 o_5.2.2.2.2.1 o_5.2.2.2.2.2.1 o_5.2.2.2.2.2.2.1 o_5.2.2.2.2.2.2.2.1 o_5.2.2.2.2.2.2.2.2, zV4 r1_6 v3_0 v3_1 r3_2 r3_3 r3_4 r3_5 r3_6 r3_7 r3_8 r3_9, zVi r3_2 k4 14 f4, zVi r2_1 k5 1200 f5, zVi r2_0 k6 13 f6, zVi r1_1 k7 4 f7, zVi r3_4 k8 14 f8]) hP hK hD hS hA ⟨hx, hb, hml, hown, hts⟩ (zf_X5_readKnown l dC dI h0 o_1 r0_0 v0_1 v0_2 v0_3 r2_0 r2_1 v2_2 v2_3 v2_4 v2_5 v2_6 v2_7 k5 f5 k6 f6 o_5 hqo_5 H.size) (cwV 1 hts gX5_readFixed_X5_readKnown rfl rfl rfl zhd_X5_readKnown ⟨Nat.le_of_ble_eq_true rfl, Nat.le_of_ble_eq_true rfl⟩) [0, 2, 5, 6] rfl (of_decide_eq_true rfl) [1, 2] rfl rfl rfl rfl hl.1 rfl (Nat.le_of_ble_eq_true rfl) dX5_readFixed_15 ⟨Nat.le_of_ble_eq_true rfl, Nat.le_of_ble_eq_true rfl⟩ [some 0, none, some 1, none, none, some 2, some 3] (of_decide_eq_true rfl) (of_decide_eq_true rfl) rfl rfl rfl (fun H locs hw_8n hP hD hS => ?_)
  refine lv_if_ne (tgt := 23) hx hb dX5_readFixed_18 (of_decide_eq_true rfl) (fun c_9 => ?_) (fun c_9 => ?_)
  · have hfn := (if_neg c_9).symm.trans hfn
    refine lv_aload_n hx hb dX5_readFixed_23 rfl (lv_at hl 0 rfl) ?_
    refine va_get (D := (dC, dI)) (ci := 5) (v := .int o_5.2.1) (C := RX5) (T := TX5) (N := 4) hx hb hts zn_X5_readFixed_X5 hown hK hP 0 rfl rfl 1 (of_decide_eq_true rfl) (hts (.fieldLink RX5 102 "ShortEnough$Parser" "got" "I") zw_X5_readFixed_517) (fun _ h9 => h9) rfl dX5_readFixed_24 ?_
    refine lv_istore_n (lv' := [(2, .int o_5.2.1), (0, .ref h0), (1, .ref h1)]) hx hb dX5_readFixed_27 rfl hl (of_decide_eq_true rfl) rfl (fun ls hl => ?_)
    refine lv_aload_n hx hb dX5_readFixed_28 rfl (lv_at hl 1 rfl) ?_
    refine lv_aload_n hx hb dX5_readFixed_29 rfl (lv_at hl 2 rfl) ?_
    refine lv_aload_n hx hb dX5_readFixed_30 rfl (lv_at hl 1 rfl) ?_
    refine va_get (D := (dC, dI)) (ci := 5) (v := .ref r0_0) (C := RX5) (T := TX5) (N := 4) hx hb hts zn_X5_readFixed_X5 hown hK hP 0 rfl rfl 0 (of_decide_eq_true rfl) (hts (.fieldLink RX5 12 "ShortEnough$Parser" "words" "LShortEnough$Words;") zw_X5_readFixed_514) (fun _ h9 => h9) rfl dX5_readFixed_31 ?_
    refine va_get (D := (dC, dI)) (ci := 10) (v := .int o_5.2.2.2.2.2.2.2.1) (C := RX10) (T := TX10) (N := 8) hx hb hts zn_X5_readFixed_X10 hown hK hP 2 rfl rfl 6 (of_decide_eq_true rfl) (hts (.fieldLink RX5 138 "ShortEnough$Words" "value" "I") zw_X5_readFixed_516) (fun _ h9 => h9) rfl dX5_readFixed_34 ?_
    obtain ⟨o_10, hqo_10, hfn⟩ := zb_s hfn
    refine zcVi (ci := 9) (rest := [.ref h0]) (pc' := 40) (ws' := [zV5 h0 r0_0 o_5.2.1 o_5.2.2.1 o_5.2.2.2.1, zV9 h1 v1_0 r1_1 r1_2 r1_3 r1_4 v1_5 r1_6 r1_7 r1_8, zV10 r0_0 r2_0 r2_1 v2_2 o_5.2.2.2.2.1 o_5.2.2.2.2.2.1 o_5.2.2.2.2.2.2.1 o_5.2.2.2.2.2.2.2.1 o_5.2.2.2.2.2.2.2.2, zV4 r1_6 v3_0 v3_1 r3_2 r3_3 r3_4 r3_5 r3_6 r3_7 r3_8 r3_9, zVi r3_2 k4 14 f4, zVi r2_1 k5 1200 f5, zVi r2_0 k6 13 f6, zVi r1_1 k7 4 f7, zVi r3_4 k8 14 f8]) hP hK hD hS hA ⟨hx, hb, hml, hown, hts⟩ (zf_X9_findFormat l dC dI h1 o_5.2.2.2.2.2.2.2.1 v1_0 r1_1 r1_2 r1_3 r1_4 v1_5 r1_6 r1_7 r1_8 k7 f7 o_10 hqo_10 H.size) (cwV 1 hts gX5_readFixed_X9_findFormat rfl rfl rfl zhd_X9_findFormat ⟨Nat.le_of_ble_eq_true rfl, Nat.le_of_ble_eq_true rfl⟩) [1, 7] rfl (of_decide_eq_true rfl) [3] rfl rfl rfl rfl hl.1 rfl (Nat.le_of_ble_eq_true rfl) dX5_readFixed_37 ⟨Nat.le_of_ble_eq_true rfl, Nat.le_of_ble_eq_true rfl⟩ [none, some 0, none, none, none, none, none, some 1] (of_decide_eq_true rfl) (of_decide_eq_true rfl) rfl rfl rfl (fun H locs hP hD hS => ?_)
    obtain ⟨o_14, hqo_14, hfn⟩ := zb_s hfn
    refine zcVb (ci := 5) (rest := []) (pc' := 43) (ws' := [zV5 h0 r0_0 o_14.2.1 o_14.2.2.1 o_14.2.2.2.1, zV9 h1 v1_0 r1_1 r1_2 r1_3 r1_4 v1_5 r1_6 r1_7 r1_8, zV10 r0_0 r2_0 r2_1 v2_2 o_14.2.2.2.2.1 o_14.2.2.2.2.2.1 o_14.2.2.2.2.2.2.1 o_14.2.2.2.2.2.2.2.1 o_14.2.2.2.2.2.2.2.2, zV4 r1_6 v3_0 v3_1 r3_2 r3_3 r3_4 r3_5 r3_6 r3_7 r3_8 r3_9, zVi r3_2 k4 14 f4, zVi r2_1 k5 1200 f5, zVi r2_0 k6 13 f6, zVi r1_1 k7 4 f7, zVi r3_4 k8 14 f8]) hP hK hD hS hA ⟨hx, hb, hml, hown, hts⟩ (zf_X5_readKnown l dC dI h0 o_10 r0_0 o_5.2.1 o_5.2.2.1 o_5.2.2.2.1 r2_0 r2_1 v2_2 o_5.2.2.2.2.1 o_5.2.2.2.2.2.1 o_5.2.2.2.2.2.2.1 o_5.2.2.2.2.2.2.2.1 o_5.2.2.2.2.2.2.2.2 k5 f5 k6 f6 o_14 hqo_14 H.size) (cwV 1 hts gX5_readFixed_X5_readKnown rfl rfl rfl zhd_X5_readKnown ⟨Nat.le_of_ble_eq_true rfl, Nat.le_of_ble_eq_true rfl⟩) [0, 2, 5, 6] rfl (of_decide_eq_true rfl) [1, 2] rfl rfl rfl rfl hl.1 rfl (Nat.le_of_ble_eq_true rfl) dX5_readFixed_40 ⟨Nat.le_of_ble_eq_true rfl, Nat.le_of_ble_eq_true rfl⟩ [some 0, none, some 1, none, none, some 2, some 3] (of_decide_eq_true rfl) (of_decide_eq_true rfl) rfl rfl rfl (fun H locs hw_17n hP hD hS => ?_)
    refine lv_if_ne (tgt := 48) hx hb dX5_readFixed_43 (of_decide_eq_true rfl) (fun c_18 => ?_) (fun c_18 => ?_)
    · have hfn := (if_neg c_18).symm.trans hfn
      refine lv_aload_n hx hb dX5_readFixed_48 rfl (lv_at hl 2 rfl) ?_
      refine va_get (D := (dC, dI)) (ci := 9) (v := .ref r1_6) (C := RX9) (T := TX9) (N := 9) hx hb hts zn_X5_readFixed_X9 hown hK hP 1 rfl rfl 6 (of_decide_eq_true rfl) (hts (.fieldLink RX5 44 "ShortEnough$Task" "numbers" "LShortEnough$Numbers;") zw_X5_readFixed_512) (fun _ h9 => h9) rfl dX5_readFixed_49 ?_
      refine lv_iload_n hx hb dX5_readFixed_52 rfl (lv_at hl 0 rfl) ?_
      refine lv_aload_n hx hb dX5_readFixed_53 rfl (lv_at hl 1 rfl) ?_
      refine va_get (D := (dC, dI)) (ci := 5) (v := .int o_14.2.1) (C := RX5) (T := TX5) (N := 4) hx hb hts zn_X5_readFixed_X5 hown hK hP 0 rfl rfl 1 (of_decide_eq_true rfl) (hts (.fieldLink RX5 102 "ShortEnough$Parser" "got" "I") zw_X5_readFixed_517) (fun _ h9 => h9) rfl dX5_readFixed_54 ?_
      obtain ⟨o_19, hqo_19, hfn⟩ := zb_s hfn
      refine zcVv (ci := 4) (rest := []) (pc' := 60) (ws' := [zV5 h0 r0_0 o_14.2.1 o_14.2.2.1 o_14.2.2.2.1, zV9 h1 v1_0 r1_1 r1_2 r1_3 r1_4 v1_5 r1_6 r1_7 r1_8, zV10 r0_0 r2_0 r2_1 v2_2 o_14.2.2.2.2.1 o_14.2.2.2.2.2.1 o_14.2.2.2.2.2.2.1 o_14.2.2.2.2.2.2.2.1 o_14.2.2.2.2.2.2.2.2, zV4 r1_6 v3_0 v3_1 r3_2 r3_3 r3_4 r3_5 r3_6 r3_7 r3_8 r3_9, zVi r3_2 k4 14 f4, zVi r2_1 k5 1200 f5, zVi r2_0 k6 13 f6, zVi r1_1 k7 4 f7, zVi r3_4 k8 14 o_19]) hP hK hD hS hA ⟨hx, hb, hml, hown, hts⟩ (zf_X4_fix l dC dI r1_6 o_5.2.1 o_14.2.1 v3_0 v3_1 r3_2 r3_3 r3_4 r3_5 r3_6 r3_7 r3_8 r3_9 k8 f8 o_19 hqo_19 H.size) (cwV 2 hts gX5_readFixed_X4_fix rfl rfl rfl zhd_X4_fix ⟨Nat.le_of_ble_eq_true rfl, Nat.le_of_ble_eq_true rfl⟩) [3, 8] rfl (of_decide_eq_true rfl) [4] rfl rfl rfl rfl hl.1 rfl (Nat.le_of_ble_eq_true rfl) dX5_readFixed_57 ⟨Nat.le_of_ble_eq_true rfl, Nat.le_of_ble_eq_true rfl⟩ [none, none, none, some 0, none, none, none, none, some 1] (of_decide_eq_true rfl) (of_decide_eq_true rfl) rfl rfl rfl (fun H locs hP hD hS => ?_)
      refine lv_iconst (v := 1) hx hb dX5_readFixed_60 zci_1 ?_
      have ho := Option.some.inj hfn
      subst ho
      exact zrz hx hb hr rfl hK hP hD hS hQ ⟨rfl, zB1⟩ hlocks dX5_readFixed_61
    have hfn := (if_pos c_18).symm.trans hfn
    refine lv_iconst (v := 0) hx hb dX5_readFixed_46 zci_0 ?_
    have ho := Option.some.inj hfn
    subst ho
    exact zrz hx hb hr rfl hK hP hD hS hQ ⟨rfl, zB0⟩ hlocks dX5_readFixed_47
  have hfn := (if_pos c_9).symm.trans hfn
  refine lv_iconst (v := 0) hx hb dX5_readFixed_21 zci_0 ?_
  have ho := Option.some.inj hfn
  subst ho
  exact zrz hx hb hr rfl hK hP hD hS hQ ⟨rfl, zB0⟩ hlocks dX5_readFixed_22
theorem zn_X5_readGroup_X9 : ∀ w ∈ wsX90, w ∈ wsX5_readGroup := fun _ h => List.mem_cons_of_mem _ (List.mem_append_left _ (List.mem_append_left _ (List.mem_append_left _ (List.mem_append_right _ h))))
theorem zw_X5_readGroup_519 : Cond.fieldLink RX5 44 "ShortEnough$Task" "numbers" "LShortEnough$Numbers;" ∈ wsX5_readGroup := List.mem_of_getElem? (i := 1) (by decide +kernel)
theorem zn_X5_readGroup_X5 : ∀ w ∈ wsX50, w ∈ wsX5_readGroup := fun _ h => List.mem_cons_of_mem _ (List.mem_append_left _ (List.mem_append_left _ (List.mem_append_right _ h)))
theorem zw_X5_readGroup_521 : Cond.fieldLink RX5 12 "ShortEnough$Parser" "words" "LShortEnough$Words;" ∈ wsX5_readGroup := List.mem_of_getElem? (i := 2) (by decide +kernel)
theorem zn_X5_readGroup_X10 : ∀ w ∈ wsX100, w ∈ wsX5_readGroup := fun _ h => List.mem_cons_of_mem _ (List.mem_append_left _ (List.mem_append_right _ h))
theorem zw_X5_readGroup_523 : Cond.fieldLink RX5 138 "ShortEnough$Words" "value" "I" ∈ wsX5_readGroup := List.mem_of_getElem? (i := 3) (by decide +kernel)
theorem zw_X5_readGroup_524 : Cond.fieldLink RX5 102 "ShortEnough$Parser" "got" "I" ∈ wsX5_readGroup := List.mem_of_getElem? (i := 4) (by decide +kernel)
theorem zw_X5_readGroup_525 : Cond.fieldLink RX5 64 "ShortEnough$Words" "start" "I" ∈ wsX5_readGroup := List.mem_of_getElem? (i := 5) (by decide +kernel)
set_option maxHeartbeats 4000000 in
set_option maxRecDepth 100000 in
theorem zf_X5_readGroup (l : Launch) (dC : Nat → ClassId) (dI : Nat → Nat → Nat) (h0 : Nat) (h1 : Nat) (r0_0 : Nat) (v0_1 : Int32) (v0_2 : Int32) (v0_3 : Int32) (v1_0 : Int32) (r1_1 : Nat) (r1_2 : Nat) (r1_3 : Nat) (r1_4 : Nat) (v1_5 : Int32) (r1_6 : Nat) (r1_7 : Nat) (r1_8 : Nat) (r2_0 : Nat) (r2_1 : Nat) (v2_2 : Int32) (v2_3 : Int32) (v2_4 : Int32) (v2_5 : Int32) (v2_6 : Int32) (v2_7 : Int32) (v3_0 : Int32) (v3_1 : Int32) (r3_2 : Nat) (r3_3 : Nat) (r3_4 : Nat) (r3_5 : Nat) (r3_6 : Nat) (r3_7 : Nat) (r3_8 : Nat) (r3_9 : Nat) (k4 : Nat) (f4 : Nat → Int32) (k5 : Nat) (f5 : Nat → Int32) (k6 : Nat) (f6 : Nat → Int32) (k7 : Nat) (f7 : Nat → Int32) (o : Int32 × Int32 × Int32 × Int32 × Int32 × Int32 × Int32 × Int32 × Int32 × (Nat → Int32)) (hfn : fn_X5_readGroup v0_1 v0_2 v0_3 v2_2 v2_3 v2_4 v2_5 v2_6 v2_7 v3_0 f4 f5 f6 f7 = some o) (sz : Nat) : zMi l yX5_readGroup wsX5_readGroup ({ frames := 3, cells := 0, slots := 0, locals := 67 }) (dC, dI) vwCl [.ref h0, .ref h1] [zV5 h0 r0_0 v0_1 v0_2 v0_3, zV9 h1 v1_0 r1_1 r1_2 r1_3 r1_4 v1_5 r1_6 r1_7 r1_8, zV10 r0_0 r2_0 r2_1 v2_2 v2_3 v2_4 v2_5 v2_6 v2_7, zV4 r1_6 v3_0 v3_1 r3_2 r3_3 r3_4 r3_5 r3_6 r3_7 r3_8 r3_9, zVi r3_2 k4 14 f4, zVi r2_1 k5 1200 f5, zVi r2_0 k6 13 f6, zVi r3_7 k7 14 f7] [(k4, .int), (k5, .byte), (k6, .int), (k7, .int)] (fun r _ => r = o.1 ∧ narrow .boolean (.int o.1) = .int o.1) [zV5 h0 r0_0 o.2.1 o.2.2.1 o.2.2.2.1, zV9 h1 v1_0 r1_1 r1_2 r1_3 r1_4 v1_5 r1_6 r1_7 r1_8, zV10 r0_0 r2_0 r2_1 v2_2 o.2.2.2.2.1 o.2.2.2.2.2.1 o.2.2.2.2.2.2.1 o.2.2.2.2.2.2.2.1 o.2.2.2.2.2.2.2.2.1, zV4 r1_6 v3_0 v3_1 r3_2 r3_3 r3_4 r3_5 r3_6 r3_7 r3_8 r3_9, zVi r3_2 k4 14 f4, zVi r2_1 k5 1200 f5, zVi r2_0 k6 13 f6, zVi r3_7 k7 14 o.2.2.2.2.2.2.2.2.2] [(k4, .int), (k5, .byte), (k6, .int), (k7, .int)] sz := by
  refine zgoi (cc := cX5_readGroup) (maxL := 4) (ret := (some .boolean)) (C0 := RX5) (lv0 := [(0, .ref h0), (1, .ref h1)]) zpl_X5 rfl rfl rfl (Nat.le_of_ble_eq_true rfl) ?_
  intro p e s m below meth c A ls Q hx hb hr hts hown hlocks hml hP hK hD hA hS hl hQ
  unfold fn_X5_readGroup at hfn
  refine lv_aload_n hx hb dX5_readGroup_0 rfl (lv_at hl 0 rfl) ?_
  refine lv_aload_n hx hb dX5_readGroup_1 rfl (lv_at hl 1 rfl) ?_
  refine va_get (D := (dC, dI)) (ci := 9) (v := .ref r1_6) (C := RX9) (T := TX9) (N := 9) hx hb hts zn_X5_readGroup_X9 hown hK hP 1 rfl rfl 6 (of_decide_eq_true rfl) (hts (.fieldLink RX5 44 "ShortEnough$Task" "numbers" "LShortEnough$Numbers;") zw_X5_readGroup_519) (fun _ h9 => h9) rfl dX5_readGroup_2 ?_
  refine lv_aload_n hx hb dX5_readGroup_5 rfl (lv_at hl 0 rfl) ?_
  refine va_get (D := (dC, dI)) (ci := 5) (v := .ref r0_0) (C := RX5) (T := TX5) (N := 4) hx hb hts zn_X5_readGroup_X5 hown hK hP 0 rfl rfl 0 (of_decide_eq_true rfl) (hts (.fieldLink RX5 12 "ShortEnough$Parser" "words" "LShortEnough$Words;") zw_X5_readGroup_521) (fun _ h9 => h9) rfl dX5_readGroup_6 ?_
  refine va_get (D := (dC, dI)) (ci := 10) (v := .int v2_6) (C := RX10) (T := TX10) (N := 8) hx hb hts zn_X5_readGroup_X10 hown hK hP 2 rfl rfl 6 (of_decide_eq_true rfl) (hts (.fieldLink RX5 138 "ShortEnough$Words" "value" "I") zw_X5_readGroup_523) (fun _ h9 => h9) rfl dX5_readGroup_9 ?_
  obtain ⟨o_1, hqo_1, hfn⟩ := zb_s hfn
  refine zcVi (ci := 4) (rest := [.ref h0]) (pc' := 15) (ws' := [zV5 h0 r0_0 v0_1 v0_2 v0_3, zV9 h1 v1_0 r1_1 r1_2 r1_3 r1_4 v1_5 r1_6 r1_7 r1_8, zV10 r0_0 r2_0 r2_1 v2_2 v2_3 v2_4 v2_5 v2_6 v2_7, zV4 r1_6 v3_0 v3_1 r3_2 r3_3 r3_4 r3_5 r3_6 r3_7 r3_8 r3_9, zVi r3_2 k4 14 f4, zVi r2_1 k5 1200 f5, zVi r2_0 k6 13 f6, zVi r3_7 k7 14 f7]) hP hK hD hS hA ⟨hx, hb, hml, hown, hts⟩ (zf_X4_find l dC dI r1_6 v2_6 v3_0 v3_1 r3_2 r3_3 r3_4 r3_5 r3_6 r3_7 r3_8 r3_9 k4 f4 o_1 hqo_1 s.heap.size) (cwV 1 hts gX5_readGroup_X4_find rfl rfl rfl zhd_X4_find ⟨Nat.le_of_ble_eq_true rfl, Nat.le_of_ble_eq_true rfl⟩) [3, 4] rfl (of_decide_eq_true rfl) [0] rfl rfl rfl rfl hl.1 rfl (Nat.le_of_ble_eq_true rfl) dX5_readGroup_12 ⟨Nat.le_of_ble_eq_true rfl, Nat.le_of_ble_eq_true rfl⟩ [none, none, none, some 0, some 1] (of_decide_eq_true rfl) (of_decide_eq_true rfl) rfl rfl rfl (fun H locs hP hD hS => ?_)
  obtain ⟨o_5, hqo_5, hfn⟩ := zb_s hfn
  refine zcVb (ci := 5) (rest := []) (pc' := 18) (ws' := [zV5 h0 r0_0 o_5.2.1 o_5.2.2.1 o_5.2.2.2.1, zV9 h1 v1_0 r1_1 r1_2 r1_3 r1_4 v1_5 r1_6 r1_7 r1_8, zV10 r0_0 r2_0 r2_1 v2_2 o_5.2.2.2.2.1 o_5.2.2.2.2.2.1 o_5.2.2.2.2.2.2.1 o_5.2.2.2.2.2.2.2.1 o_5.2.2.2.2.2.2.2.2, zV4 r1_6 v3_0 v3_1 r3_2 r3_3 r3_4 r3_5 r3_6 r3_7 r3_8 r3_9, zVi r3_2 k4 14 f4, zVi r2_1 k5 1200 f5, zVi r2_0 k6 13 f6, zVi r3_7 k7 14 f7]) hP hK hD hS hA ⟨hx, hb, hml, hown, hts⟩ (zf_X5_readKnown l dC dI h0 o_1 r0_0 v0_1 v0_2 v0_3 r2_0 r2_1 v2_2 v2_3 v2_4 v2_5 v2_6 v2_7 k5 f5 k6 f6 o_5 hqo_5 H.size) (cwV 1 hts gX5_readGroup_X5_readKnown rfl rfl rfl zhd_X5_readKnown ⟨Nat.le_of_ble_eq_true rfl, Nat.le_of_ble_eq_true rfl⟩) [0, 2, 5, 6] rfl (of_decide_eq_true rfl) [1, 2] rfl rfl rfl rfl hl.1 rfl (Nat.le_of_ble_eq_true rfl) dX5_readGroup_15 ⟨Nat.le_of_ble_eq_true rfl, Nat.le_of_ble_eq_true rfl⟩ [some 0, none, some 1, none, none, some 2, some 3] (of_decide_eq_true rfl) (of_decide_eq_true rfl) rfl rfl rfl (fun H locs hw_8n hP hD hS => ?_)
  refine lv_if_ne (tgt := 23) hx hb dX5_readGroup_18 (of_decide_eq_true rfl) (fun c_9 => ?_) (fun c_9 => ?_)
  · have hfn := (if_neg c_9).symm.trans hfn
    refine lv_aload_n hx hb dX5_readGroup_23 rfl (lv_at hl 0 rfl) ?_
    refine va_get (D := (dC, dI)) (ci := 5) (v := .int o_5.2.1) (C := RX5) (T := TX5) (N := 4) hx hb hts zn_X5_readGroup_X5 hown hK hP 0 rfl rfl 1 (of_decide_eq_true rfl) (hts (.fieldLink RX5 102 "ShortEnough$Parser" "got" "I") zw_X5_readGroup_524) (fun _ h9 => h9) rfl dX5_readGroup_24 ?_
    refine lv_istore_n (lv' := [(2, .int o_5.2.1), (0, .ref h0), (1, .ref h1)]) hx hb dX5_readGroup_27 rfl hl (of_decide_eq_true rfl) rfl (fun ls hl => ?_)
    refine lv_aload_n hx hb dX5_readGroup_28 rfl (lv_at hl 1 rfl) ?_
    refine va_get (D := (dC, dI)) (ci := 5) (v := .ref r0_0) (C := RX5) (T := TX5) (N := 4) hx hb hts zn_X5_readGroup_X5 hown hK hP 0 rfl rfl 0 (of_decide_eq_true rfl) (hts (.fieldLink RX5 12 "ShortEnough$Parser" "words" "LShortEnough$Words;") zw_X5_readGroup_521) (fun _ h9 => h9) rfl dX5_readGroup_29 ?_
    refine va_get (D := (dC, dI)) (ci := 10) (v := .int o_5.2.2.2.2.2.2.1) (C := RX10) (T := TX10) (N := 8) hx hb hts zn_X5_readGroup_X10 hown hK hP 2 rfl rfl 5 (of_decide_eq_true rfl) (hts (.fieldLink RX5 64 "ShortEnough$Words" "start" "I") zw_X5_readGroup_525) (fun _ h9 => h9) rfl dX5_readGroup_32 ?_
    refine lv_istore_n (lv' := [(3, .int o_5.2.2.2.2.2.2.1), (2, .int o_5.2.1), (0, .ref h0), (1, .ref h1)]) hx hb dX5_readGroup_35 rfl hl (of_decide_eq_true rfl) rfl (fun ls hl => ?_)
    refine lv_aload_n hx hb dX5_readGroup_36 rfl (lv_at hl 2 rfl) ?_
    refine lv_aload_n hx hb dX5_readGroup_37 rfl (lv_at hl 3 rfl) ?_
    refine va_get (D := (dC, dI)) (ci := 9) (v := .ref r1_6) (C := RX9) (T := TX9) (N := 9) hx hb hts zn_X5_readGroup_X9 hown hK hP 1 rfl rfl 6 (of_decide_eq_true rfl) (hts (.fieldLink RX5 44 "ShortEnough$Task" "numbers" "LShortEnough$Numbers;") zw_X5_readGroup_519) (fun _ h9 => h9) rfl dX5_readGroup_38 ?_
    refine lv_aload_n hx hb dX5_readGroup_41 rfl (lv_at hl 2 rfl) ?_
    refine va_get (D := (dC, dI)) (ci := 5) (v := .ref r0_0) (C := RX5) (T := TX5) (N := 4) hx hb hts zn_X5_readGroup_X5 hown hK hP 0 rfl rfl 0 (of_decide_eq_true rfl) (hts (.fieldLink RX5 12 "ShortEnough$Parser" "words" "LShortEnough$Words;") zw_X5_readGroup_521) (fun _ h9 => h9) rfl dX5_readGroup_42 ?_
    refine va_get (D := (dC, dI)) (ci := 10) (v := .int o_5.2.2.2.2.2.2.2.1) (C := RX10) (T := TX10) (N := 8) hx hb hts zn_X5_readGroup_X10 hown hK hP 2 rfl rfl 6 (of_decide_eq_true rfl) (hts (.fieldLink RX5 138 "ShortEnough$Words" "value" "I") zw_X5_readGroup_523) (fun _ h9 => h9) rfl dX5_readGroup_45 ?_
    obtain ⟨o_10, hqo_10, hfn⟩ := zb_s hfn
    refine zcVi (ci := 4) (rest := [.ref h0]) (pc' := 51) (ws' := [zV5 h0 r0_0 o_5.2.1 o_5.2.2.1 o_5.2.2.2.1, zV9 h1 v1_0 r1_1 r1_2 r1_3 r1_4 v1_5 r1_6 r1_7 r1_8, zV10 r0_0 r2_0 r2_1 v2_2 o_5.2.2.2.2.1 o_5.2.2.2.2.2.1 o_5.2.2.2.2.2.2.1 o_5.2.2.2.2.2.2.2.1 o_5.2.2.2.2.2.2.2.2, zV4 r1_6 v3_0 v3_1 r3_2 r3_3 r3_4 r3_5 r3_6 r3_7 r3_8 r3_9, zVi r3_2 k4 14 f4, zVi r2_1 k5 1200 f5, zVi r2_0 k6 13 f6, zVi r3_7 k7 14 f7]) hP hK hD hS hA ⟨hx, hb, hml, hown, hts⟩ (zf_X4_find l dC dI r1_6 o_5.2.2.2.2.2.2.2.1 v3_0 v3_1 r3_2 r3_3 r3_4 r3_5 r3_6 r3_7 r3_8 r3_9 k4 f4 o_10 hqo_10 H.size) (cwV 1 hts gX5_readGroup_X4_find rfl rfl rfl zhd_X4_find ⟨Nat.le_of_ble_eq_true rfl, Nat.le_of_ble_eq_true rfl⟩) [3, 4] rfl (of_decide_eq_true rfl) [0] rfl rfl rfl rfl hl.1 rfl (Nat.le_of_ble_eq_true rfl) dX5_readGroup_48 ⟨Nat.le_of_ble_eq_true rfl, Nat.le_of_ble_eq_true rfl⟩ [none, none, none, some 0, some 1] (of_decide_eq_true rfl) (of_decide_eq_true rfl) rfl rfl rfl (fun H locs hP hD hS => ?_)
    obtain ⟨o_14, hqo_14, hfn⟩ := zb_s hfn
    refine zcVb (ci := 5) (rest := []) (pc' := 54) (ws' := [zV5 h0 r0_0 o_14.2.1 o_14.2.2.1 o_14.2.2.2.1, zV9 h1 v1_0 r1_1 r1_2 r1_3 r1_4 v1_5 r1_6 r1_7 r1_8, zV10 r0_0 r2_0 r2_1 v2_2 o_14.2.2.2.2.1 o_14.2.2.2.2.2.1 o_14.2.2.2.2.2.2.1 o_14.2.2.2.2.2.2.2.1 o_14.2.2.2.2.2.2.2.2, zV4 r1_6 v3_0 v3_1 r3_2 r3_3 r3_4 r3_5 r3_6 r3_7 r3_8 r3_9, zVi r3_2 k4 14 f4, zVi r2_1 k5 1200 f5, zVi r2_0 k6 13 f6, zVi r3_7 k7 14 f7]) hP hK hD hS hA ⟨hx, hb, hml, hown, hts⟩ (zf_X5_readKnown l dC dI h0 o_10 r0_0 o_5.2.1 o_5.2.2.1 o_5.2.2.2.1 r2_0 r2_1 v2_2 o_5.2.2.2.2.1 o_5.2.2.2.2.2.1 o_5.2.2.2.2.2.2.1 o_5.2.2.2.2.2.2.2.1 o_5.2.2.2.2.2.2.2.2 k5 f5 k6 f6 o_14 hqo_14 H.size) (cwV 1 hts gX5_readGroup_X5_readKnown rfl rfl rfl zhd_X5_readKnown ⟨Nat.le_of_ble_eq_true rfl, Nat.le_of_ble_eq_true rfl⟩) [0, 2, 5, 6] rfl (of_decide_eq_true rfl) [1, 2] rfl rfl rfl rfl hl.1 rfl (Nat.le_of_ble_eq_true rfl) dX5_readGroup_51 ⟨Nat.le_of_ble_eq_true rfl, Nat.le_of_ble_eq_true rfl⟩ [some 0, none, some 1, none, none, some 2, some 3] (of_decide_eq_true rfl) (of_decide_eq_true rfl) rfl rfl rfl (fun H locs hw_17n hP hD hS => ?_)
    refine lv_if_ne (tgt := 59) hx hb dX5_readGroup_54 (of_decide_eq_true rfl) (fun c_18 => ?_) (fun c_18 => ?_)
    · have hfn := (if_neg c_18).symm.trans hfn
      refine lv_aload_n hx hb dX5_readGroup_59 rfl (lv_at hl 2 rfl) ?_
      refine va_get (D := (dC, dI)) (ci := 5) (v := .int o_14.2.1) (C := RX5) (T := TX5) (N := 4) hx hb hts zn_X5_readGroup_X5 hown hK hP 0 rfl rfl 1 (of_decide_eq_true rfl) (hts (.fieldLink RX5 102 "ShortEnough$Parser" "got" "I") zw_X5_readGroup_524) (fun _ h9 => h9) rfl dX5_readGroup_60 ?_
      refine lv_iload_n hx hb dX5_readGroup_63 rfl (lv_at hl 1 rfl) ?_
      refine lv_icmp_ne (tgt := 74) hx hb dX5_readGroup_64 (of_decide_eq_true rfl) (fun c_19 => ?_) (fun c_19 => ?_)
      · have hfn := (if_neg c_19).symm.trans hfn
        refine lv_aload_n hx hb dX5_readGroup_74 rfl (lv_at hl 3 rfl) ?_
        refine va_get (D := (dC, dI)) (ci := 9) (v := .ref r1_6) (C := RX9) (T := TX9) (N := 9) hx hb hts zn_X5_readGroup_X9 hown hK hP 1 rfl rfl 6 (of_decide_eq_true rfl) (hts (.fieldLink RX5 44 "ShortEnough$Task" "numbers" "LShortEnough$Numbers;") zw_X5_readGroup_519) (fun _ h9 => h9) rfl dX5_readGroup_75 ?_
        refine lv_iload_n hx hb dX5_readGroup_78 rfl (lv_at hl 1 rfl) ?_
        refine lv_aload_n hx hb dX5_readGroup_79 rfl (lv_at hl 2 rfl) ?_
        refine va_get (D := (dC, dI)) (ci := 5) (v := .int o_14.2.1) (C := RX5) (T := TX5) (N := 4) hx hb hts zn_X5_readGroup_X5 hown hK hP 0 rfl rfl 1 (of_decide_eq_true rfl) (hts (.fieldLink RX5 102 "ShortEnough$Parser" "got" "I") zw_X5_readGroup_524) (fun _ h9 => h9) rfl dX5_readGroup_80 ?_
        obtain ⟨o_20, hqo_20, hfn⟩ := zb_s hfn
        refine zcVv (ci := 4) (rest := []) (pc' := 86) (ws' := [zV5 h0 r0_0 o_14.2.1 o_14.2.2.1 o_14.2.2.2.1, zV9 h1 v1_0 r1_1 r1_2 r1_3 r1_4 v1_5 r1_6 r1_7 r1_8, zV10 r0_0 r2_0 r2_1 v2_2 o_14.2.2.2.2.1 o_14.2.2.2.2.2.1 o_14.2.2.2.2.2.2.1 o_14.2.2.2.2.2.2.2.1 o_14.2.2.2.2.2.2.2.2, zV4 r1_6 v3_0 v3_1 r3_2 r3_3 r3_4 r3_5 r3_6 r3_7 r3_8 r3_9, zVi r3_2 k4 14 f4, zVi r2_1 k5 1200 f5, zVi r2_0 k6 13 f6, zVi r3_7 k7 14 o_20]) hP hK hD hS hA ⟨hx, hb, hml, hown, hts⟩ (zf_X4_join l dC dI r1_6 o_5.2.1 o_14.2.1 v3_0 v3_1 r3_2 r3_3 r3_4 r3_5 r3_6 r3_7 r3_8 r3_9 k7 f7 o_20 hqo_20 H.size) (cwV 2 hts gX5_readGroup_X4_join rfl rfl rfl zhd_X4_join ⟨Nat.le_of_ble_eq_true rfl, Nat.le_of_ble_eq_true rfl⟩) [3, 7] rfl (of_decide_eq_true rfl) [3] rfl rfl rfl rfl hl.1 rfl (Nat.le_of_ble_eq_true rfl) dX5_readGroup_83 ⟨Nat.le_of_ble_eq_true rfl, Nat.le_of_ble_eq_true rfl⟩ [none, none, none, some 0, none, none, none, some 1] (of_decide_eq_true rfl) (of_decide_eq_true rfl) rfl rfl rfl (fun H locs hP hD hS => ?_)
        refine lv_iconst (v := 1) hx hb dX5_readGroup_86 zci_1 ?_
        have ho := Option.some.inj hfn
        subst ho
        exact zrz hx hb hr rfl hK hP hD hS hQ ⟨rfl, zB1⟩ hlocks dX5_readGroup_87
      have hfn := (if_pos c_19).symm.trans hfn
      refine lv_aload_n hx hb dX5_readGroup_67 rfl (lv_at hl 2 rfl) ?_
      refine lv_iconst (v := 3) hx hb dX5_readGroup_68 zci_3 ?_
      refine lv_iload_n hx hb dX5_readGroup_69 rfl (lv_at hl 0 rfl) ?_
      obtain ⟨o_24, hqo_24, hfn⟩ := zb_s hfn
      refine zcVb (ci := 5) (rest := []) (pc' := 73) (ws' := [zV5 h0 r0_0 o_14.2.1 o_24.2.1 o_24.2.2, zV9 h1 v1_0 r1_1 r1_2 r1_3 r1_4 v1_5 r1_6 r1_7 r1_8, zV10 r0_0 r2_0 r2_1 v2_2 o_14.2.2.2.2.1 o_14.2.2.2.2.2.1 o_14.2.2.2.2.2.2.1 o_14.2.2.2.2.2.2.2.1 o_14.2.2.2.2.2.2.2.2, zV4 r1_6 v3_0 v3_1 r3_2 r3_3 r3_4 r3_5 r3_6 r3_7 r3_8 r3_9, zVi r3_2 k4 14 f4, zVi r2_1 k5 1200 f5, zVi r2_0 k6 13 f6, zVi r3_7 k7 14 f7]) hP hK hD hS hA ⟨hx, hb, hml, hown, hts⟩ (zf_X5_stopAt l dC dI h0 3 o_5.2.2.2.2.2.2.1 r0_0 o_14.2.1 o_14.2.2.1 o_14.2.2.2.1 o_24 hqo_24 H.size) (cwV 2 hts gX5_readGroup_X5_stopAt rfl rfl rfl zhd_X5_stopAt ⟨Nat.le_of_ble_eq_true rfl, Nat.le_of_ble_eq_true rfl⟩) [0] rfl (of_decide_eq_true rfl) [] rfl rfl rfl rfl hl.1 rfl (Nat.le_of_ble_eq_true rfl) dX5_readGroup_70 ⟨Nat.le_of_ble_eq_true rfl, Nat.le_of_ble_eq_true rfl⟩ [some 0] (of_decide_eq_true rfl) (of_decide_eq_true rfl) rfl rfl rfl (fun H locs hw_27n hP hD hS => ?_)
      have ho := Option.some.inj hfn
      subst ho
      exact zrz hx hb hr hw_27n hK hP hD hS hQ ⟨rfl, hw_27n⟩ hlocks dX5_readGroup_73
    have hfn := (if_pos c_18).symm.trans hfn
    refine lv_iconst (v := 0) hx hb dX5_readGroup_57 zci_0 ?_
    have ho := Option.some.inj hfn
    subst ho
    exact zrz hx hb hr rfl hK hP hD hS hQ ⟨rfl, zB0⟩ hlocks dX5_readGroup_58
  have hfn := (if_pos c_9).symm.trans hfn
  refine lv_iconst (v := 0) hx hb dX5_readGroup_21 zci_0 ?_
  have ho := Option.some.inj hfn
  subst ho
  exact zrz hx hb hr rfl hK hP hD hS hQ ⟨rfl, zB0⟩ hlocks dX5_readGroup_22
theorem zn_X5_readStatement_X5 : ∀ w ∈ wsX50, w ∈ wsX5_readStatement := fun _ h => List.mem_cons_of_mem _ (List.mem_append_left _ (List.mem_append_left _ (List.mem_append_left _ (List.mem_append_right _ h))))
theorem zw_X5_readStatement_412 : Cond.fieldLink RX5 12 "ShortEnough$Parser" "words" "LShortEnough$Words;" ∈ wsX5_readStatement := List.mem_of_getElem? (i := 1) (by decide +kernel)
theorem zn_X5_readStatement_X10 : ∀ w ∈ wsX100, w ∈ wsX5_readStatement := fun _ h => List.mem_cons_of_mem _ (List.mem_append_left _ (List.mem_append_left _ (List.mem_append_right _ h)))
theorem zw_X5_readStatement_414 : Cond.fieldLink RX5 57 "ShortEnough$Words" "own" "I" ∈ wsX5_readStatement := List.mem_of_getElem? (i := 2) (by decide +kernel)
theorem zw_X5_readStatement_415 : Cond.fieldLink RX5 64 "ShortEnough$Words" "start" "I" ∈ wsX5_readStatement := List.mem_of_getElem? (i := 3) (by decide +kernel)
set_option maxHeartbeats 4000000 in
set_option maxRecDepth 100000 in
theorem zf_X5_readStatement (l : Launch) (dC : Nat → ClassId) (dI : Nat → Nat → Nat) (h0 : Nat) (h1 : Nat) (p2 : Int32) (r0_0 : Nat) (v0_1 : Int32) (v0_2 : Int32) (v0_3 : Int32) (r1_0 : Nat) (r1_1 : Nat) (v1_2 : Int32) (v1_3 : Int32) (v1_4 : Int32) (v1_5 : Int32) (v1_6 : Int32) (v1_7 : Int32) (v2_0 : Int32) (r2_1 : Nat) (r2_2 : Nat) (r2_3 : Nat) (r2_4 : Nat) (v2_5 : Int32) (r2_6 : Nat) (r2_7 : Nat) (r2_8 : Nat) (v3_0 : Int32) (v3_1 : Int32) (r3_2 : Nat) (r3_3 : Nat) (r3_4 : Nat) (r3_5 : Nat) (r3_6 : Nat) (r3_7 : Nat) (r3_8 : Nat) (r3_9 : Nat) (k4 : Nat) (f4 : Nat → Int32) (k5 : Nat) (f5 : Nat → Int32) (k6 : Nat) (f6 : Nat → Int32) (k7 : Nat) (f7 : Nat → Int32) (k8 : Nat) (f8 : Nat → Int32) (k9 : Nat) (f9 : Nat → Int32) (k10 : Nat) (f10 : Nat → Int32) (k11 : Nat) (f11 : Nat → Int32) (k12 : Nat) (f12 : Nat → Int32) (k13 : Nat) (f13 : Nat → Int32) (k14 : Nat) (f14 : Nat → Int32) (k15 : Nat) (f15 : Nat → Int32) (k16 : Nat) (f16 : Nat → Int32) (k17 : Nat) (f17 : Nat → Int32) (o : Int32 × Int32 × Int32 × Int32 × Int32 × Int32 × Int32 × Int32 × Int32 × Int32 × Int32 × Int32 × Int32 × (Nat → Int32) × (Nat → Int32) × (Nat → Int32) × (Nat → Int32) × (Nat → Int32) × (Nat → Int32) × (Nat → Int32) × (Nat → Int32) × (Nat → Int32) × (Nat → Int32) × (Nat → Int32) × (Nat → Int32)) (hfn : fn_X5_readStatement p2 v0_1 v0_2 v0_3 v1_2 v1_3 v1_4 v1_5 v1_6 v1_7 v2_0 v2_5 v3_0 v3_1 f4 f5 f6 f7 f8 f9 f10 f11 f12 f13 f14 f15 f16 f17 = some o) (sz : Nat) : zMi l yX5_readStatement wsX5_readStatement ({ frames := 5, cells := 0, slots := 0, locals := 118 }) (dC, dI) vwCl [.ref h0, .ref h1, .int p2] [zV5 h0 r0_0 v0_1 v0_2 v0_3, zV10 r0_0 r1_0 r1_1 v1_2 v1_3 v1_4 v1_5 v1_6 v1_7, zV9 h1 v2_0 r2_1 r2_2 r2_3 r2_4 v2_5 r2_6 r2_7 r2_8, zV4 r2_6 v3_0 v3_1 r3_2 r3_3 r3_4 r3_5 r3_6 r3_7 r3_8 r3_9, zVi r1_1 k4 1200 f4, zVi r1_0 k5 13 f5, zVi r2_1 k6 4 f6, zVi r3_2 k7 14 f7, zVi r2_2 k8 4 f8, zVi r2_3 k9 4 f9, zVi r2_4 k10 4 f10, zVi r3_5 k11 14 f11, zVi r3_8 k12 28 f12, zVi r3_9 k13 28 f13, zVi r3_3 k14 14 f14, zVi r3_4 k15 14 f15, zVi r3_7 k16 14 f16, zVi r3_6 k17 14 f17] [(k4, .byte), (k5, .int), (k6, .int), (k7, .int), (k8, .int), (k9, .int), (k10, .int), (k11, .int), (k12, .int), (k13, .int), (k14, .int), (k15, .int), (k16, .int), (k17, .int)] (fun r _ => r = o.1 ∧ narrow .boolean (.int o.1) = .int o.1) [zV5 h0 r0_0 o.2.1 o.2.2.1 o.2.2.2.1, zV10 r0_0 r1_0 r1_1 v1_2 o.2.2.2.2.1 o.2.2.2.2.2.1 o.2.2.2.2.2.2.1 o.2.2.2.2.2.2.2.1 o.2.2.2.2.2.2.2.2.1, zV9 h1 o.2.2.2.2.2.2.2.2.2.1 r2_1 r2_2 r2_3 r2_4 o.2.2.2.2.2.2.2.2.2.2.1 r2_6 r2_7 r2_8, zV4 r2_6 o.2.2.2.2.2.2.2.2.2.2.2.1 o.2.2.2.2.2.2.2.2.2.2.2.2.1 r3_2 r3_3 r3_4 r3_5 r3_6 r3_7 r3_8 r3_9, zVi r1_1 k4 1200 f4, zVi r1_0 k5 13 f5, zVi r2_1 k6 4 o.2.2.2.2.2.2.2.2.2.2.2.2.2.1, zVi r3_2 k7 14 o.2.2.2.2.2.2.2.2.2.2.2.2.2.2.1, zVi r2_2 k8 4 o.2.2.2.2.2.2.2.2.2.2.2.2.2.2.2.1, zVi r2_3 k9 4 o.2.2.2.2.2.2.2.2.2.2.2.2.2.2.2.2.1, zVi r2_4 k10 4 o.2.2.2.2.2.2.2.2.2.2.2.2.2.2.2.2.2.1, zVi r3_5 k11 14 o.2.2.2.2.2.2.2.2.2.2.2.2.2.2.2.2.2.2.1, zVi r3_8 k12 28 o.2.2.2.2.2.2.2.2.2.2.2.2.2.2.2.2.2.2.2.1, zVi r3_9 k13 28 o.2.2.2.2.2.2.2.2.2.2.2.2.2.2.2.2.2.2.2.2.1, zVi r3_3 k14 14 o.2.2.2.2.2.2.2.2.2.2.2.2.2.2.2.2.2.2.2.2.2.1, zVi r3_4 k15 14 o.2.2.2.2.2.2.2.2.2.2.2.2.2.2.2.2.2.2.2.2.2.2.1, zVi r3_7 k16 14 o.2.2.2.2.2.2.2.2.2.2.2.2.2.2.2.2.2.2.2.2.2.2.2.1, zVi r3_6 k17 14 o.2.2.2.2.2.2.2.2.2.2.2.2.2.2.2.2.2.2.2.2.2.2.2.2] [(k4, .byte), (k5, .int), (k6, .int), (k7, .int), (k8, .int), (k9, .int), (k10, .int), (k11, .int), (k12, .int), (k13, .int), (k14, .int), (k15, .int), (k16, .int), (k17, .int)] sz := by
  refine zgoi (cc := cX5_readStatement) (maxL := 5) (ret := (some .boolean)) (C0 := RX5) (lv0 := [(0, .ref h0), (1, .ref h1), (2, .int p2)]) zpl_X5 rfl rfl rfl (Nat.le_of_ble_eq_true rfl) ?_
  intro p e s m below meth c A ls Q hx hb hr hts hown hlocks hml hP hK hD hA hS hl hQ
  unfold fn_X5_readStatement at hfn
  refine lv_aload_n hx hb dX5_readStatement_0 rfl (lv_at hl 0 rfl) ?_
  refine va_get (D := (dC, dI)) (ci := 5) (v := .ref r0_0) (C := RX5) (T := TX5) (N := 4) hx hb hts zn_X5_readStatement_X5 hown hK hP 0 rfl rfl 0 (of_decide_eq_true rfl) (hts (.fieldLink RX5 12 "ShortEnough$Parser" "words" "LShortEnough$Words;") zw_X5_readStatement_412) (fun _ h9 => h9) rfl dX5_readStatement_1 ?_
  refine va_get (D := (dC, dI)) (ci := 10) (v := .int v1_7) (C := RX10) (T := TX10) (N := 8) hx hb hts zn_X5_readStatement_X10 hown hK hP 1 rfl rfl 7 (of_decide_eq_true rfl) (hts (.fieldLink RX5 57 "ShortEnough$Words" "own" "I") zw_X5_readStatement_414) (fun _ h9 => h9) rfl dX5_readStatement_4 ?_
  refine lv_istore_n (lv' := [(3, .int v1_7), (0, .ref h0), (1, .ref h1), (2, .int p2)]) hx hb dX5_readStatement_7 rfl hl (of_decide_eq_true rfl) rfl (fun ls hl => ?_)
  refine lv_iload_n hx hb dX5_readStatement_8 rfl (lv_at hl 0 rfl) ?_
  obtain ⟨o_1, hqo_1, hfn⟩ := zb_s hfn
  refine zcSb (rest := []) (pc' := 12) (ws' := [zV5 h0 r0_0 v0_1 v0_2 v0_3, zV10 r0_0 r1_0 r1_1 v1_2 v1_3 v1_4 v1_5 v1_6 v1_7, zV9 h1 v2_0 r2_1 r2_2 r2_3 r2_4 v2_5 r2_6 r2_7 r2_8, zV4 r2_6 v3_0 v3_1 r3_2 r3_3 r3_4 r3_5 r3_6 r3_7 r3_8 r3_9, zVi r1_1 k4 1200 f4, zVi r1_0 k5 13 f5, zVi r2_1 k6 4 f6, zVi r3_2 k7 14 f7, zVi r2_2 k8 4 f8, zVi r2_3 k9 4 f9, zVi r2_4 k10 4 f10, zVi r3_5 k11 14 f11, zVi r3_8 k12 28 f12, zVi r3_9 k13 28 f13, zVi r3_3 k14 14 f14, zVi r3_4 k15 14 f15, zVi r3_7 k16 14 f16, zVi r3_6 k17 14 f17]) hP hK hD hS hA ⟨hx, hb, hml, hown, hts⟩ (zf_X5_startsStatement l dC dI v1_7 o_1 hqo_1 s.heap.size) (va_cwS 1 hts gX5_readStatement_X5_startsStatement rfl rfl rfl zhd_X5_startsStatement.2 ⟨Nat.le_of_ble_eq_true rfl, Nat.le_of_ble_eq_true rfl⟩) [] rfl (of_decide_eq_true rfl) [] rfl rfl hl.1 rfl (Nat.le_of_ble_eq_true rfl) dX5_readStatement_9 ⟨Nat.le_of_ble_eq_true rfl, Nat.le_of_ble_eq_true rfl⟩ [] (of_decide_eq_true rfl) (of_decide_eq_true rfl) rfl rfl rfl (fun H locs hw_4n hP hD hS => ?_)
  refine lv_if_ne (tgt := 28) hx hb dX5_readStatement_12 (of_decide_eq_true rfl) (fun c_5 => ?_) (fun c_5 => ?_)
  · have hfn := (if_neg c_5).symm.trans hfn
    refine lv_iload_n hx hb dX5_readStatement_28 rfl (lv_at hl 3 rfl) ?_
    refine lv_bipush (v := 40) hx hb dX5_readStatement_29 zcb_40 ?_
    refine lv_icmp_ge (tgt := 42) hx hb dX5_readStatement_31 (of_decide_eq_true rfl) (fun c_6 => ?_) (fun c_6 => ?_)
    · have hfn := (if_pos c_6).symm.trans hfn
      refine lv_aload_n hx hb dX5_readStatement_42 rfl (lv_at hl 1 rfl) ?_
      refine lv_iconst (v := 4) hx hb dX5_readStatement_43 zci_4 ?_
      refine lv_aload_n hx hb dX5_readStatement_44 rfl (lv_at hl 1 rfl) ?_
      refine va_get (D := (dC, dI)) (ci := 5) (v := .ref r0_0) (C := RX5) (T := TX5) (N := 4) hx hb hts zn_X5_readStatement_X5 hown hK hP 0 rfl rfl 0 (of_decide_eq_true rfl) (hts (.fieldLink RX5 12 "ShortEnough$Parser" "words" "LShortEnough$Words;") zw_X5_readStatement_412) (fun _ h9 => h9) rfl dX5_readStatement_45 ?_
      refine va_get (D := (dC, dI)) (ci := 10) (v := .int v1_5) (C := RX10) (T := TX10) (N := 8) hx hb hts zn_X5_readStatement_X10 hown hK hP 1 rfl rfl 5 (of_decide_eq_true rfl) (hts (.fieldLink RX5 64 "ShortEnough$Words" "start" "I") zw_X5_readStatement_415) (fun _ h9 => h9) rfl dX5_readStatement_48 ?_
      obtain ⟨o_7, hqo_7, hfn⟩ := zb_s hfn
      refine zcVb (ci := 5) (rest := []) (pc' := 54) (ws' := [zV5 h0 r0_0 v0_1 o_7.2.1 o_7.2.2, zV10 r0_0 r1_0 r1_1 v1_2 v1_3 v1_4 v1_5 v1_6 v1_7, zV9 h1 v2_0 r2_1 r2_2 r2_3 r2_4 v2_5 r2_6 r2_7 r2_8, zV4 r2_6 v3_0 v3_1 r3_2 r3_3 r3_4 r3_5 r3_6 r3_7 r3_8 r3_9, zVi r1_1 k4 1200 f4, zVi r1_0 k5 13 f5, zVi r2_1 k6 4 f6, zVi r3_2 k7 14 f7, zVi r2_2 k8 4 f8, zVi r2_3 k9 4 f9, zVi r2_4 k10 4 f10, zVi r3_5 k11 14 f11, zVi r3_8 k12 28 f12, zVi r3_9 k13 28 f13, zVi r3_3 k14 14 f14, zVi r3_4 k15 14 f15, zVi r3_7 k16 14 f16, zVi r3_6 k17 14 f17]) hP hK hD hS hA ⟨hx, hb, hml, hown, hts⟩ (zf_X5_stopAt l dC dI h0 4 v1_5 r0_0 v0_1 v0_2 v0_3 o_7 hqo_7 H.size) (cwV 2 hts gX5_readStatement_X5_stopAt rfl rfl rfl zhd_X5_stopAt ⟨Nat.le_of_ble_eq_true rfl, Nat.le_of_ble_eq_true rfl⟩) [0] rfl (of_decide_eq_true rfl) [] rfl rfl rfl rfl hl.1 rfl (Nat.le_of_ble_eq_true rfl) dX5_readStatement_51 ⟨Nat.le_of_ble_eq_true rfl, Nat.le_of_ble_eq_true rfl⟩ [some 0] (of_decide_eq_true rfl) (of_decide_eq_true rfl) rfl rfl rfl (fun H locs hw_10n hP hD hS => ?_)
      have ho := Option.some.inj hfn
      subst ho
      exact zrz hx hb hr hw_10n hK hP hD hS hQ ⟨rfl, hw_10n⟩ hlocks dX5_readStatement_54
    have hfn := (if_neg c_6).symm.trans hfn
    refine lv_aload_n hx hb dX5_readStatement_34 rfl (lv_at hl 2 rfl) ?_
    refine lv_iload_n hx hb dX5_readStatement_35 rfl (lv_at hl 0 rfl) ?_
    obtain ⟨o_11, hqo_11, hfn⟩ := zb_s hfn
    refine zcSb (rest := []) (pc' := 39) (ws' := [zV5 h0 r0_0 v0_1 v0_2 v0_3, zV10 r0_0 r1_0 r1_1 v1_2 v1_3 v1_4 v1_5 v1_6 v1_7, zV9 h1 v2_0 r2_1 r2_2 r2_3 r2_4 v2_5 r2_6 r2_7 r2_8, zV4 r2_6 v3_0 v3_1 r3_2 r3_3 r3_4 r3_5 r3_6 r3_7 r3_8 r3_9, zVi r1_1 k4 1200 f4, zVi r1_0 k5 13 f5, zVi r2_1 k6 4 f6, zVi r3_2 k7 14 f7, zVi r2_2 k8 4 f8, zVi r2_3 k9 4 f9, zVi r2_4 k10 4 f10, zVi r3_5 k11 14 f11, zVi r3_8 k12 28 f12, zVi r3_9 k13 28 f13, zVi r3_3 k14 14 f14, zVi r3_4 k15 14 f15, zVi r3_7 k16 14 f16, zVi r3_6 k17 14 f17]) hP hK hD hS hA ⟨hx, hb, hml, hown, hts⟩ (zf_X5_isFull l dC dI h1 v1_7 v2_0 r2_1 r2_2 r2_3 r2_4 v2_5 r2_6 r2_7 r2_8 v3_0 v3_1 r3_2 r3_3 r3_4 r3_5 r3_6 r3_7 r3_8 r3_9 o_11 hqo_11 H.size) (va_cwS 2 hts gX5_readStatement_X5_isFull rfl rfl rfl zhd_X5_isFull.2 ⟨Nat.le_of_ble_eq_true rfl, Nat.le_of_ble_eq_true rfl⟩) [2, 3] rfl (of_decide_eq_true rfl) [] rfl rfl hl.1 rfl (Nat.le_of_ble_eq_true rfl) dX5_readStatement_36 ⟨Nat.le_of_ble_eq_true rfl, Nat.le_of_ble_eq_true rfl⟩ [none, none, some 0, some 1] (of_decide_eq_true rfl) (of_decide_eq_true rfl) rfl rfl rfl (fun H locs hw_14n hP hD hS => ?_)
    refine lv_if_eq (tgt := 55) hx hb dX5_readStatement_39 (of_decide_eq_true rfl) (fun c_15 => ?_) (fun c_15 => ?_)
    · have hfn := (if_pos c_15).symm.trans hfn
      refine lv_aload_n hx hb dX5_readStatement_55 rfl (lv_at hl 1 rfl) ?_
      refine va_get (D := (dC, dI)) (ci := 5) (v := .ref r0_0) (C := RX5) (T := TX5) (N := 4) hx hb hts zn_X5_readStatement_X5 hown hK hP 0 rfl rfl 0 (of_decide_eq_true rfl) (hts (.fieldLink RX5 12 "ShortEnough$Parser" "words" "LShortEnough$Words;") zw_X5_readStatement_412) (fun _ h9 => h9) rfl dX5_readStatement_56 ?_
      obtain ⟨o_16, hqo_16, hfn⟩ := zb_s hfn
      refine zcVv (ci := 10) (rest := []) (pc' := 62) (ws' := [zV5 h0 r0_0 v0_1 v0_2 v0_3, zV10 r0_0 r1_0 r1_1 v1_2 o_16.1 o_16.2.1 o_16.2.2.1 o_16.2.2.2.1 o_16.2.2.2.2, zV9 h1 v2_0 r2_1 r2_2 r2_3 r2_4 v2_5 r2_6 r2_7 r2_8, zV4 r2_6 v3_0 v3_1 r3_2 r3_3 r3_4 r3_5 r3_6 r3_7 r3_8 r3_9, zVi r1_1 k4 1200 f4, zVi r1_0 k5 13 f5, zVi r2_1 k6 4 f6, zVi r3_2 k7 14 f7, zVi r2_2 k8 4 f8, zVi r2_3 k9 4 f9, zVi r2_4 k10 4 f10, zVi r3_5 k11 14 f11, zVi r3_8 k12 28 f12, zVi r3_9 k13 28 f13, zVi r3_3 k14 14 f14, zVi r3_4 k15 14 f15, zVi r3_7 k16 14 f16, zVi r3_6 k17 14 f17]) hP hK hD hS hA ⟨hx, hb, hml, hown, hts⟩ (zf_X10_advance l dC dI r0_0 r1_0 r1_1 v1_2 v1_3 v1_4 v1_5 v1_6 v1_7 k4 f4 k5 f5 o_16 hqo_16 H.size) (cwV 0 hts gX5_readStatement_X10_advance rfl rfl rfl zhd_X10_advance ⟨Nat.le_of_ble_eq_true rfl, Nat.le_of_ble_eq_true rfl⟩) [1, 4, 5] rfl (of_decide_eq_true rfl) [0, 1] rfl rfl rfl rfl hl.1 rfl (Nat.le_of_ble_eq_true rfl) dX5_readStatement_59 ⟨Nat.le_of_ble_eq_true rfl, Nat.le_of_ble_eq_true rfl⟩ [none, some 0, none, none, some 1, some 2] (of_decide_eq_true rfl) (of_decide_eq_true rfl) rfl rfl rfl (fun H locs hP hD hS => ?_)
      refine lv_iload_n hx hb dX5_readStatement_62 rfl (lv_at hl 0 rfl) ?_
      obtain ⟨j_20, ej_20, hfn⟩ := zj_g hfn
      have jp_20 : ∀ (s_20 : Int32 × Int32 × Int32 × Int32 × Int32 × Int32 × Int32 × Int32 × Int32 × Int32 × Int32 × Int32 × Int32 × (Nat → Int32) × (Nat → Int32) × (Nat → Int32) × (Nat → Int32) × (Nat → Int32) × (Nat → Int32) × (Nat → Int32) × (Nat → Int32) × (Nat → Int32) × (Nat → Int32) × (Nat → Int32) × (Nat → Int32)) (H : Heap) (locs : List Loc) (ls : Array Slot), j_20 s_20 = some o → va_P (dC, dI) vwCl [zV5 h0 r0_0 s_20.2.1 s_20.2.2.1 s_20.2.2.2.1, zV10 r0_0 r1_0 r1_1 v1_2 s_20.2.2.2.2.2.2.1 s_20.2.2.2.2.2.2.2.1 s_20.2.2.2.2.2.2.2.2.1 s_20.2.2.2.2.2.2.2.2.2.1 s_20.2.2.2.2.2.2.2.2.2.2.1, zV9 h1 s_20.2.2.2.2.1 r2_1 r2_2 r2_3 r2_4 s_20.2.2.2.2.2.1 r2_6 r2_7 r2_8, zV4 r2_6 s_20.2.2.2.2.2.2.2.2.2.2.2.1 s_20.2.2.2.2.2.2.2.2.2.2.2.2.1 r3_2 r3_3 r3_4 r3_5 r3_6 r3_7 r3_8 r3_9, zVi r1_1 k4 1200 f4, zVi r1_0 k5 13 f5, zVi r2_1 k6 4 s_20.2.2.2.2.2.2.2.2.2.2.2.2.2.1, zVi r3_2 k7 14 s_20.2.2.2.2.2.2.2.2.2.2.2.2.2.2.2.2.2.1, zVi r2_2 k8 4 s_20.2.2.2.2.2.2.2.2.2.2.2.2.2.2.1, zVi r2_3 k9 4 s_20.2.2.2.2.2.2.2.2.2.2.2.2.2.2.2.1, zVi r2_4 k10 4 s_20.2.2.2.2.2.2.2.2.2.2.2.2.2.2.2.2.1, zVi r3_5 k11 14 s_20.2.2.2.2.2.2.2.2.2.2.2.2.2.2.2.2.2.2.2.2.1, zVi r3_8 k12 28 s_20.2.2.2.2.2.2.2.2.2.2.2.2.2.2.2.2.2.2.2.2.2.2.2.1, zVi r3_9 k13 28 s_20.2.2.2.2.2.2.2.2.2.2.2.2.2.2.2.2.2.2.2.2.2.2.2.2, zVi r3_3 k14 14 s_20.2.2.2.2.2.2.2.2.2.2.2.2.2.2.2.2.2.2.1, zVi r3_4 k15 14 s_20.2.2.2.2.2.2.2.2.2.2.2.2.2.2.2.2.2.2.2.1, zVi r3_7 k16 14 s_20.2.2.2.2.2.2.2.2.2.2.2.2.2.2.2.2.2.2.2.2.2.2.1, zVi r3_6 k17 14 s_20.2.2.2.2.2.2.2.2.2.2.2.2.2.2.2.2.2.2.2.2.2.1] H → va_D A [zV5 h0 r0_0 s_20.2.1 s_20.2.2.1 s_20.2.2.2.1, zV10 r0_0 r1_0 r1_1 v1_2 s_20.2.2.2.2.2.2.1 s_20.2.2.2.2.2.2.2.1 s_20.2.2.2.2.2.2.2.2.1 s_20.2.2.2.2.2.2.2.2.2.1 s_20.2.2.2.2.2.2.2.2.2.2.1, zV9 h1 s_20.2.2.2.2.1 r2_1 r2_2 r2_3 r2_4 s_20.2.2.2.2.2.1 r2_6 r2_7 r2_8, zV4 r2_6 s_20.2.2.2.2.2.2.2.2.2.2.2.1 s_20.2.2.2.2.2.2.2.2.2.2.2.2.1 r3_2 r3_3 r3_4 r3_5 r3_6 r3_7 r3_8 r3_9, zVi r1_1 k4 1200 f4, zVi r1_0 k5 13 f5, zVi r2_1 k6 4 s_20.2.2.2.2.2.2.2.2.2.2.2.2.2.1, zVi r3_2 k7 14 s_20.2.2.2.2.2.2.2.2.2.2.2.2.2.2.2.2.2.1, zVi r2_2 k8 4 s_20.2.2.2.2.2.2.2.2.2.2.2.2.2.2.1, zVi r2_3 k9 4 s_20.2.2.2.2.2.2.2.2.2.2.2.2.2.2.2.1, zVi r2_4 k10 4 s_20.2.2.2.2.2.2.2.2.2.2.2.2.2.2.2.2.1, zVi r3_5 k11 14 s_20.2.2.2.2.2.2.2.2.2.2.2.2.2.2.2.2.2.2.2.2.1, zVi r3_8 k12 28 s_20.2.2.2.2.2.2.2.2.2.2.2.2.2.2.2.2.2.2.2.2.2.2.2.1, zVi r3_9 k13 28 s_20.2.2.2.2.2.2.2.2.2.2.2.2.2.2.2.2.2.2.2.2.2.2.2.2, zVi r3_3 k14 14 s_20.2.2.2.2.2.2.2.2.2.2.2.2.2.2.2.2.2.2.1, zVi r3_4 k15 14 s_20.2.2.2.2.2.2.2.2.2.2.2.2.2.2.2.2.2.2.2.1, zVi r3_7 k16 14 s_20.2.2.2.2.2.2.2.2.2.2.2.2.2.2.2.2.2.2.2.2.2.2.1, zVi r3_6 k17 14 s_20.2.2.2.2.2.2.2.2.2.2.2.2.2.2.2.2.2.2.2.2.2.1] → va_S A s.heap H locs → lv_has ls 5 [(4, .int s_20.1), (0, .ref h0)] → W p l e (headSpec wsX5_readStatement ({ frames := 5, cells := 0, slots := 0, locals := 118 })).room s m ([.ref h0, .ref h1, .int p2] : List Value).toArray below meth c H locs 0 0 Q (F0 m 187 ls []) := by
        intro s_20 H locs ls hfn hP hD hS hl
        have hfn := zj_s ej_20 hfn
        refine lv_iload hx hb dX5_readStatement_187 (lv_at hl 0 rfl) ?_
        refine lv_if_eq (tgt := 205) hx hb dX5_readStatement_189 (of_decide_eq_true rfl) (fun c_21 => ?_) (fun c_21 => ?_)
        · have hfn := (if_pos c_21).symm.trans hfn
          refine lv_iconst (v := 0) hx hb dX5_readStatement_205 zci_0 ?_
          have ho := Option.some.inj hfn
          subst ho
          exact zrz hx hb hr rfl hK hP hD hS hQ ⟨rfl, zB0⟩ hlocks dX5_readStatement_206
        have hfn := (if_neg c_21).symm.trans hfn
        refine lv_aload_n hx hb dX5_readStatement_192 rfl (lv_at hl 1 rfl) ?_
        refine lv_bipush (v := 59) hx hb dX5_readStatement_193 zcb_59 ?_
        obtain ⟨o_22, hqo_22, hfn⟩ := zb_s hfn
        refine zcVb (ci := 5) (rest := []) (pc' := 198) (ws' := [zV5 h0 r0_0 s_20.2.1 o_22.2.1 o_22.2.2.1, zV10 r0_0 r1_0 r1_1 v1_2 o_22.2.2.2.1 o_22.2.2.2.2.1 o_22.2.2.2.2.2.1 o_22.2.2.2.2.2.2.1 o_22.2.2.2.2.2.2.2, zV9 h1 s_20.2.2.2.2.1 r2_1 r2_2 r2_3 r2_4 s_20.2.2.2.2.2.1 r2_6 r2_7 r2_8, zV4 r2_6 s_20.2.2.2.2.2.2.2.2.2.2.2.1 s_20.2.2.2.2.2.2.2.2.2.2.2.2.1 r3_2 r3_3 r3_4 r3_5 r3_6 r3_7 r3_8 r3_9, zVi r1_1 k4 1200 f4, zVi r1_0 k5 13 f5, zVi r2_1 k6 4 s_20.2.2.2.2.2.2.2.2.2.2.2.2.2.1, zVi r3_2 k7 14 s_20.2.2.2.2.2.2.2.2.2.2.2.2.2.2.2.2.2.1, zVi r2_2 k8 4 s_20.2.2.2.2.2.2.2.2.2.2.2.2.2.2.1, zVi r2_3 k9 4 s_20.2.2.2.2.2.2.2.2.2.2.2.2.2.2.2.1, zVi r2_4 k10 4 s_20.2.2.2.2.2.2.2.2.2.2.2.2.2.2.2.2.1, zVi r3_5 k11 14 s_20.2.2.2.2.2.2.2.2.2.2.2.2.2.2.2.2.2.2.2.2.1, zVi r3_8 k12 28 s_20.2.2.2.2.2.2.2.2.2.2.2.2.2.2.2.2.2.2.2.2.2.2.2.1, zVi r3_9 k13 28 s_20.2.2.2.2.2.2.2.2.2.2.2.2.2.2.2.2.2.2.2.2.2.2.2.2, zVi r3_3 k14 14 s_20.2.2.2.2.2.2.2.2.2.2.2.2.2.2.2.2.2.2.1, zVi r3_4 k15 14 s_20.2.2.2.2.2.2.2.2.2.2.2.2.2.2.2.2.2.2.2.1, zVi r3_7 k16 14 s_20.2.2.2.2.2.2.2.2.2.2.2.2.2.2.2.2.2.2.2.2.2.2.1, zVi r3_6 k17 14 s_20.2.2.2.2.2.2.2.2.2.2.2.2.2.2.2.2.2.2.2.2.2.1]) hP hK hD hS hA ⟨hx, hb, hml, hown, hts⟩ (zf_X5_readSign l dC dI h0 59 r0_0 s_20.2.1 s_20.2.2.1 s_20.2.2.2.1 r1_0 r1_1 v1_2 s_20.2.2.2.2.2.2.1 s_20.2.2.2.2.2.2.2.1 s_20.2.2.2.2.2.2.2.2.1 s_20.2.2.2.2.2.2.2.2.2.1 s_20.2.2.2.2.2.2.2.2.2.2.1 k4 f4 k5 f5 o_22 hqo_22 H.size) (cwV 1 hts gX5_readStatement_X5_readSign rfl rfl rfl zhd_X5_readSign ⟨Nat.le_of_ble_eq_true rfl, Nat.le_of_ble_eq_true rfl⟩) [0, 1, 4, 5] rfl (of_decide_eq_true rfl) [0, 1] rfl rfl rfl rfl hl.1 rfl (Nat.le_of_ble_eq_true rfl) dX5_readStatement_195 ⟨Nat.le_of_ble_eq_true rfl, Nat.le_of_ble_eq_true rfl⟩ [some 0, some 1, none, none, some 2, some 3] (of_decide_eq_true rfl) (of_decide_eq_true rfl) rfl rfl rfl (fun H locs hw_25n hP hD hS => ?_)
        refine lv_if_eq (tgt := 205) hx hb dX5_readStatement_198 (of_decide_eq_true rfl) (fun c_26 => ?_) (fun c_26 => ?_)
        · have hfn := (if_pos c_26).symm.trans hfn
          refine lv_iconst (v := 0) hx hb dX5_readStatement_205 zci_0 ?_
          have ho := Option.some.inj hfn
          subst ho
          exact zrz hx hb hr rfl hK hP hD hS hQ ⟨rfl, zB0⟩ hlocks dX5_readStatement_206
        have hfn := (if_neg c_26).symm.trans hfn
        refine lv_iconst (v := 1) hx hb dX5_readStatement_201 zci_1 ?_
        refine lv_goto (tgt := 206) hx hb dX5_readStatement_202 (of_decide_eq_true rfl) ?_
        have ho := Option.some.inj hfn
        subst ho
        exact zrz hx hb hr rfl hK hP hD hS hQ ⟨rfl, zB1⟩ hlocks dX5_readStatement_206
      by_cases c_27 : v1_7 = 0
      · have hfn := (if_pos c_27).symm.trans hfn
        refine W.eq (g2 := F0 m 63 ls [.int 0]) (by rw [c_27]) ?_
        refine lv_tableIn (tgt := 120) (off := 57) hx hb dX5_readStatement_63 (by decide +kernel) (by decide +kernel) (by decide +kernel) (of_decide_eq_true rfl) ?_
        refine lv_aload_n hx hb dX5_readStatement_120 rfl (lv_at hl 1 rfl) ?_
        refine lv_aload_n hx hb dX5_readStatement_121 rfl (lv_at hl 2 rfl) ?_
        obtain ⟨o_28, hqo_28, hfn⟩ := zb_s hfn
        refine zcVb (ci := 5) (rest := []) (pc' := 125) (ws' := [zV5 h0 r0_0 o_28.2.1 o_28.2.2.1 o_28.2.2.2.1, zV10 r0_0 r1_0 r1_1 v1_2 o_28.2.2.2.2.1 o_28.2.2.2.2.2.1 o_28.2.2.2.2.2.2.1 o_28.2.2.2.2.2.2.2.1 o_28.2.2.2.2.2.2.2.2.1, zV9 h1 o_28.2.2.2.2.2.2.2.2.2.1 r2_1 r2_2 r2_3 r2_4 v2_5 r2_6 r2_7 r2_8, zV4 r2_6 v3_0 v3_1 r3_2 r3_3 r3_4 r3_5 r3_6 r3_7 r3_8 r3_9, zVi r1_1 k4 1200 f4, zVi r1_0 k5 13 f5, zVi r2_1 k6 4 o_28.2.2.2.2.2.2.2.2.2.2.1, zVi r3_2 k7 14 f7, zVi r2_2 k8 4 o_28.2.2.2.2.2.2.2.2.2.2.2.1, zVi r2_3 k9 4 o_28.2.2.2.2.2.2.2.2.2.2.2.2.1, zVi r2_4 k10 4 o_28.2.2.2.2.2.2.2.2.2.2.2.2.2, zVi r3_5 k11 14 f11, zVi r3_8 k12 28 f12, zVi r3_9 k13 28 f13, zVi r3_3 k14 14 f14, zVi r3_4 k15 14 f15, zVi r3_7 k16 14 f16, zVi r3_6 k17 14 f17]) hP hK hD hS hA ⟨hx, hb, hml, hown, hts⟩ (zf_X5_readFormat l dC dI h0 h1 r0_0 v0_1 v0_2 v0_3 r1_0 r1_1 v1_2 o_16.1 o_16.2.1 o_16.2.2.1 o_16.2.2.2.1 o_16.2.2.2.2 v2_0 r2_1 r2_2 r2_3 r2_4 v2_5 r2_6 r2_7 r2_8 k6 f6 v3_0 v3_1 r3_2 r3_3 r3_4 r3_5 r3_6 r3_7 r3_8 r3_9 k7 f7 k4 f4 k5 f5 k8 f8 k9 f9 k10 f10 o_28 hqo_28 H.size) (cwV 1 hts gX5_readStatement_X5_readFormat rfl rfl rfl zhd_X5_readFormat ⟨Nat.le_of_ble_eq_true rfl, Nat.le_of_ble_eq_true rfl⟩) [0, 1, 2, 6, 3, 7, 4, 5, 8, 9, 10] rfl (of_decide_eq_true rfl) [2, 3, 0, 1, 4, 5, 6] rfl rfl rfl rfl hl.1 rfl (Nat.le_of_ble_eq_true rfl) dX5_readStatement_122 ⟨Nat.le_of_ble_eq_true rfl, Nat.le_of_ble_eq_true rfl⟩ [some 0, some 1, some 2, some 4, some 6, some 7, some 3, some 5, some 8, some 9, some 10] (of_decide_eq_true rfl) (of_decide_eq_true rfl) rfl rfl rfl (fun H locs hw_31n hP hD hS => ?_)
        refine lv_istore (lv' := [(4, .int o_28.1), (3, .int v1_7), (0, .ref h0), (1, .ref h1), (2, .int p2)]) hx hb dX5_readStatement_125 hl (of_decide_eq_true rfl) rfl (fun ls hl => ?_)
        refine lv_goto (tgt := 187) hx hb dX5_readStatement_127 (of_decide_eq_true rfl) ?_
        exact jp_20 (o_28.1, o_28.2.1, o_28.2.2.1, o_28.2.2.2.1, o_28.2.2.2.2.2.2.2.2.2.1, v2_5, o_28.2.2.2.2.1, o_28.2.2.2.2.2.1, o_28.2.2.2.2.2.2.1, o_28.2.2.2.2.2.2.2.1, o_28.2.2.2.2.2.2.2.2.1, v3_0, v3_1, o_28.2.2.2.2.2.2.2.2.2.2.1, o_28.2.2.2.2.2.2.2.2.2.2.2.1, o_28.2.2.2.2.2.2.2.2.2.2.2.2.1, o_28.2.2.2.2.2.2.2.2.2.2.2.2.2, f7, f14, f15, f11, f17, f16, f12, f13) H locs ls hfn hP hD hS (lv_sub hl [0, 2] rfl)
      have hfn := (if_neg c_27).symm.trans hfn
      have oc_27 := zk_ne rfl (by decide +kernel : (0 : Int32).toInt = 0) c_27
      by_cases c_32 : v1_7 = 1
      · have hfn := (if_pos c_32).symm.trans hfn
        refine W.eq (g2 := F0 m 63 ls [.int 1]) (by rw [c_32]) ?_
        refine lv_tableIn (tgt := 180) (off := 117) hx hb dX5_readStatement_63 (by decide +kernel) (by decide +kernel) (by decide +kernel) (of_decide_eq_true rfl) ?_
        refine lv_aload_n hx hb dX5_readStatement_180 rfl (lv_at hl 1 rfl) ?_
        refine lv_aload_n hx hb dX5_readStatement_181 rfl (lv_at hl 2 rfl) ?_
        obtain ⟨o_33, hqo_33, hfn⟩ := zb_s hfn
        refine zcVb (ci := 5) (rest := []) (pc' := 185) (ws' := [zV5 h0 r0_0 o_33.2.1 o_33.2.2.1 o_33.2.2.2.1, zV10 r0_0 r1_0 r1_1 v1_2 o_33.2.2.2.2.1 o_33.2.2.2.2.2.1 o_33.2.2.2.2.2.2.1 o_33.2.2.2.2.2.2.2.1 o_33.2.2.2.2.2.2.2.2.1, zV9 h1 v2_0 r2_1 r2_2 r2_3 r2_4 v2_5 r2_6 r2_7 r2_8, zV4 r2_6 v3_0 v3_1 r3_2 r3_3 r3_4 r3_5 r3_6 r3_7 r3_8 r3_9, zVi r1_1 k4 1200 f4, zVi r1_0 k5 13 f5, zVi r2_1 k6 4 f6, zVi r3_2 k7 14 f7, zVi r2_2 k8 4 f8, zVi r2_3 k9 4 f9, zVi r2_4 k10 4 f10, zVi r3_5 k11 14 o_33.2.2.2.2.2.2.2.2.2, zVi r3_8 k12 28 f12, zVi r3_9 k13 28 f13, zVi r3_3 k14 14 f14, zVi r3_4 k15 14 f15, zVi r3_7 k16 14 f16, zVi r3_6 k17 14 f17]) hP hK hD hS hA ⟨hx, hb, hml, hown, hts⟩ (zf_X5_readAnswer l dC dI h0 h1 r0_0 v0_1 v0_2 v0_3 v2_0 r2_1 r2_2 r2_3 r2_4 v2_5 r2_6 r2_7 r2_8 r1_0 r1_1 v1_2 o_16.1 o_16.2.1 o_16.2.2.1 o_16.2.2.2.1 o_16.2.2.2.2 v3_0 v3_1 r3_2 r3_3 r3_4 r3_5 r3_6 r3_7 r3_8 r3_9 k7 f7 k4 f4 k5 f5 k11 f11 o_33 hqo_33 H.size) (cwV 1 hts gX5_readStatement_X5_readAnswer rfl rfl rfl zhd_X5_readAnswer ⟨Nat.le_of_ble_eq_true rfl, Nat.le_of_ble_eq_true rfl⟩) [0, 2, 1, 3, 7, 4, 5, 11] rfl (of_decide_eq_true rfl) [3, 0, 1, 7] rfl rfl rfl rfl hl.1 rfl (Nat.le_of_ble_eq_true rfl) dX5_readStatement_182 ⟨Nat.le_of_ble_eq_true rfl, Nat.le_of_ble_eq_true rfl⟩ [some 0, some 2, some 1, some 3, some 5, some 6, none, some 4, none, none, none, some 7] (of_decide_eq_true rfl) (of_decide_eq_true rfl) rfl rfl rfl (fun H locs hw_36n hP hD hS => ?_)
        refine lv_istore (lv' := [(4, .int o_33.1), (3, .int v1_7), (0, .ref h0), (1, .ref h1), (2, .int p2)]) hx hb dX5_readStatement_185 hl (of_decide_eq_true rfl) rfl (fun ls hl => ?_)
        exact jp_20 (o_33.1, o_33.2.1, o_33.2.2.1, o_33.2.2.2.1, v2_0, v2_5, o_33.2.2.2.2.1, o_33.2.2.2.2.2.1, o_33.2.2.2.2.2.2.1, o_33.2.2.2.2.2.2.2.1, o_33.2.2.2.2.2.2.2.2.1, v3_0, v3_1, f6, f8, f9, f10, f7, f14, f15, o_33.2.2.2.2.2.2.2.2.2, f17, f16, f12, f13) H locs ls hfn hP hD hS (lv_sub hl [0, 2] rfl)
      have hfn := (if_neg c_32).symm.trans hfn
      have oc_32 := zk_ne rfl (by decide +kernel : (1 : Int32).toInt = 1) c_32
      by_cases c_37 : v1_7 = 2
      · have hfn := (if_pos c_37).symm.trans hfn
        refine W.eq (g2 := F0 m 63 ls [.int 2]) (by rw [c_37]) ?_
        refine lv_tableIn (tgt := 180) (off := 117) hx hb dX5_readStatement_63 (by decide +kernel) (by decide +kernel) (by decide +kernel) (of_decide_eq_true rfl) ?_
        refine lv_aload_n hx hb dX5_readStatement_180 rfl (lv_at hl 1 rfl) ?_
        refine lv_aload_n hx hb dX5_readStatement_181 rfl (lv_at hl 2 rfl) ?_
        obtain ⟨o_38, hqo_38, hfn⟩ := zb_s hfn
        refine zcVb (ci := 5) (rest := []) (pc' := 185) (ws' := [zV5 h0 r0_0 o_38.2.1 o_38.2.2.1 o_38.2.2.2.1, zV10 r0_0 r1_0 r1_1 v1_2 o_38.2.2.2.2.1 o_38.2.2.2.2.2.1 o_38.2.2.2.2.2.2.1 o_38.2.2.2.2.2.2.2.1 o_38.2.2.2.2.2.2.2.2.1, zV9 h1 v2_0 r2_1 r2_2 r2_3 r2_4 v2_5 r2_6 r2_7 r2_8, zV4 r2_6 v3_0 v3_1 r3_2 r3_3 r3_4 r3_5 r3_6 r3_7 r3_8 r3_9, zVi r1_1 k4 1200 f4, zVi r1_0 k5 13 f5, zVi r2_1 k6 4 f6, zVi r3_2 k7 14 f7, zVi r2_2 k8 4 f8, zVi r2_3 k9 4 f9, zVi r2_4 k10 4 f10, zVi r3_5 k11 14 o_38.2.2.2.2.2.2.2.2.2, zVi r3_8 k12 28 f12, zVi r3_9 k13 28 f13, zVi r3_3 k14 14 f14, zVi r3_4 k15 14 f15, zVi r3_7 k16 14 f16, zVi r3_6 k17 14 f17]) hP hK hD hS hA ⟨hx, hb, hml, hown, hts⟩ (zf_X5_readAnswer l dC dI h0 h1 r0_0 v0_1 v0_2 v0_3 v2_0 r2_1 r2_2 r2_3 r2_4 v2_5 r2_6 r2_7 r2_8 r1_0 r1_1 v1_2 o_16.1 o_16.2.1 o_16.2.2.1 o_16.2.2.2.1 o_16.2.2.2.2 v3_0 v3_1 r3_2 r3_3 r3_4 r3_5 r3_6 r3_7 r3_8 r3_9 k7 f7 k4 f4 k5 f5 k11 f11 o_38 hqo_38 H.size) (cwV 1 hts gX5_readStatement_X5_readAnswer rfl rfl rfl zhd_X5_readAnswer ⟨Nat.le_of_ble_eq_true rfl, Nat.le_of_ble_eq_true rfl⟩) [0, 2, 1, 3, 7, 4, 5, 11] rfl (of_decide_eq_true rfl) [3, 0, 1, 7] rfl rfl rfl rfl hl.1 rfl (Nat.le_of_ble_eq_true rfl) dX5_readStatement_182 ⟨Nat.le_of_ble_eq_true rfl, Nat.le_of_ble_eq_true rfl⟩ [some 0, some 2, some 1, some 3, some 5, some 6, none, some 4, none, none, none, some 7] (of_decide_eq_true rfl) (of_decide_eq_true rfl) rfl rfl rfl (fun H locs hw_41n hP hD hS => ?_)
        refine lv_istore (lv' := [(4, .int o_38.1), (3, .int v1_7), (0, .ref h0), (1, .ref h1), (2, .int p2)]) hx hb dX5_readStatement_185 hl (of_decide_eq_true rfl) rfl (fun ls hl => ?_)
        exact jp_20 (o_38.1, o_38.2.1, o_38.2.2.1, o_38.2.2.2.1, v2_0, v2_5, o_38.2.2.2.2.1, o_38.2.2.2.2.2.1, o_38.2.2.2.2.2.2.1, o_38.2.2.2.2.2.2.2.1, o_38.2.2.2.2.2.2.2.2.1, v3_0, v3_1, f6, f8, f9, f10, f7, f14, f15, o_38.2.2.2.2.2.2.2.2.2, f17, f16, f12, f13) H locs ls hfn hP hD hS (lv_sub hl [0, 2] rfl)
      have hfn := (if_neg c_37).symm.trans hfn
      have oc_37 := zk_ne rfl (by decide +kernel : (2 : Int32).toInt = 2) c_37
      by_cases c_42 : v1_7 = 3
      · have hfn := (if_pos c_42).symm.trans hfn
        refine W.eq (g2 := F0 m 63 ls [.int 3]) (by rw [c_42]) ?_
        refine lv_tableIn (tgt := 180) (off := 117) hx hb dX5_readStatement_63 (by decide +kernel) (by decide +kernel) (by decide +kernel) (of_decide_eq_true rfl) ?_
        refine lv_aload_n hx hb dX5_readStatement_180 rfl (lv_at hl 1 rfl) ?_
        refine lv_aload_n hx hb dX5_readStatement_181 rfl (lv_at hl 2 rfl) ?_
        obtain ⟨o_43, hqo_43, hfn⟩ := zb_s hfn
        refine zcVb (ci := 5) (rest := []) (pc' := 185) (ws' := [zV5 h0 r0_0 o_43.2.1 o_43.2.2.1 o_43.2.2.2.1, zV10 r0_0 r1_0 r1_1 v1_2 o_43.2.2.2.2.1 o_43.2.2.2.2.2.1 o_43.2.2.2.2.2.2.1 o_43.2.2.2.2.2.2.2.1 o_43.2.2.2.2.2.2.2.2.1, zV9 h1 v2_0 r2_1 r2_2 r2_3 r2_4 v2_5 r2_6 r2_7 r2_8, zV4 r2_6 v3_0 v3_1 r3_2 r3_3 r3_4 r3_5 r3_6 r3_7 r3_8 r3_9, zVi r1_1 k4 1200 f4, zVi r1_0 k5 13 f5, zVi r2_1 k6 4 f6, zVi r3_2 k7 14 f7, zVi r2_2 k8 4 f8, zVi r2_3 k9 4 f9, zVi r2_4 k10 4 f10, zVi r3_5 k11 14 o_43.2.2.2.2.2.2.2.2.2, zVi r3_8 k12 28 f12, zVi r3_9 k13 28 f13, zVi r3_3 k14 14 f14, zVi r3_4 k15 14 f15, zVi r3_7 k16 14 f16, zVi r3_6 k17 14 f17]) hP hK hD hS hA ⟨hx, hb, hml, hown, hts⟩ (zf_X5_readAnswer l dC dI h0 h1 r0_0 v0_1 v0_2 v0_3 v2_0 r2_1 r2_2 r2_3 r2_4 v2_5 r2_6 r2_7 r2_8 r1_0 r1_1 v1_2 o_16.1 o_16.2.1 o_16.2.2.1 o_16.2.2.2.1 o_16.2.2.2.2 v3_0 v3_1 r3_2 r3_3 r3_4 r3_5 r3_6 r3_7 r3_8 r3_9 k7 f7 k4 f4 k5 f5 k11 f11 o_43 hqo_43 H.size) (cwV 1 hts gX5_readStatement_X5_readAnswer rfl rfl rfl zhd_X5_readAnswer ⟨Nat.le_of_ble_eq_true rfl, Nat.le_of_ble_eq_true rfl⟩) [0, 2, 1, 3, 7, 4, 5, 11] rfl (of_decide_eq_true rfl) [3, 0, 1, 7] rfl rfl rfl rfl hl.1 rfl (Nat.le_of_ble_eq_true rfl) dX5_readStatement_182 ⟨Nat.le_of_ble_eq_true rfl, Nat.le_of_ble_eq_true rfl⟩ [some 0, some 2, some 1, some 3, some 5, some 6, none, some 4, none, none, none, some 7] (of_decide_eq_true rfl) (of_decide_eq_true rfl) rfl rfl rfl (fun H locs hw_46n hP hD hS => ?_)
        refine lv_istore (lv' := [(4, .int o_43.1), (3, .int v1_7), (0, .ref h0), (1, .ref h1), (2, .int p2)]) hx hb dX5_readStatement_185 hl (of_decide_eq_true rfl) rfl (fun ls hl => ?_)
        exact jp_20 (o_43.1, o_43.2.1, o_43.2.2.1, o_43.2.2.2.1, v2_0, v2_5, o_43.2.2.2.2.1, o_43.2.2.2.2.2.1, o_43.2.2.2.2.2.2.1, o_43.2.2.2.2.2.2.2.1, o_43.2.2.2.2.2.2.2.2.1, v3_0, v3_1, f6, f8, f9, f10, f7, f14, f15, o_43.2.2.2.2.2.2.2.2.2, f17, f16, f12, f13) H locs ls hfn hP hD hS (lv_sub hl [0, 2] rfl)
      have hfn := (if_neg c_42).symm.trans hfn
      have oc_42 := zk_ne rfl (by decide +kernel : (3 : Int32).toInt = 3) c_42
      by_cases c_47 : v1_7 = 4
      · have hfn := (if_pos c_47).symm.trans hfn
        refine W.eq (g2 := F0 m 63 ls [.int 4]) (by rw [c_47]) ?_
        refine lv_tableIn (tgt := 130) (off := 67) hx hb dX5_readStatement_63 (by decide +kernel) (by decide +kernel) (by decide +kernel) (of_decide_eq_true rfl) ?_
        refine lv_aload_n hx hb dX5_readStatement_130 rfl (lv_at hl 1 rfl) ?_
        refine lv_aload_n hx hb dX5_readStatement_131 rfl (lv_at hl 2 rfl) ?_
        obtain ⟨o_48, hqo_48, hfn⟩ := zb_s hfn
        refine zcVb (ci := 5) (rest := []) (pc' := 135) (ws' := [zV5 h0 r0_0 o_48.2.1 o_48.2.2.1 o_48.2.2.2.1, zV10 r0_0 r1_0 r1_1 v1_2 o_48.2.2.2.2.1 o_48.2.2.2.2.2.1 o_48.2.2.2.2.2.2.1 o_48.2.2.2.2.2.2.2.1 o_48.2.2.2.2.2.2.2.2.1, zV9 h1 v2_0 r2_1 r2_2 r2_3 r2_4 o_48.2.2.2.2.2.2.2.2.2 r2_6 r2_7 r2_8, zV4 r2_6 v3_0 v3_1 r3_2 r3_3 r3_4 r3_5 r3_6 r3_7 r3_8 r3_9, zVi r1_1 k4 1200 f4, zVi r1_0 k5 13 f5, zVi r2_1 k6 4 f6, zVi r3_2 k7 14 f7, zVi r2_2 k8 4 f8, zVi r2_3 k9 4 f9, zVi r2_4 k10 4 f10, zVi r3_5 k11 14 f11, zVi r3_8 k12 28 f12, zVi r3_9 k13 28 f13, zVi r3_3 k14 14 f14, zVi r3_4 k15 14 f15, zVi r3_7 k16 14 f16, zVi r3_6 k17 14 f17]) hP hK hD hS hA ⟨hx, hb, hml, hown, hts⟩ (zf_X5_readCast l dC dI h0 h1 r0_0 v0_1 v0_2 v0_3 r1_0 r1_1 v1_2 o_16.1 o_16.2.1 o_16.2.2.1 o_16.2.2.2.1 o_16.2.2.2.2 k4 f4 k5 f5 v2_0 r2_1 r2_2 r2_3 r2_4 v2_5 r2_6 r2_7 r2_8 o_48 hqo_48 H.size) (cwV 1 hts gX5_readStatement_X5_readCast rfl rfl rfl zhd_X5_readCast ⟨Nat.le_of_ble_eq_true rfl, Nat.le_of_ble_eq_true rfl⟩) [0, 1, 4, 5, 2] rfl (of_decide_eq_true rfl) [0, 1] rfl rfl rfl rfl hl.1 rfl (Nat.le_of_ble_eq_true rfl) dX5_readStatement_132 ⟨Nat.le_of_ble_eq_true rfl, Nat.le_of_ble_eq_true rfl⟩ [some 0, some 1, some 4, none, some 2, some 3] (of_decide_eq_true rfl) (of_decide_eq_true rfl) rfl rfl rfl (fun H locs hw_51n hP hD hS => ?_)
        refine lv_istore (lv' := [(4, .int o_48.1), (3, .int v1_7), (0, .ref h0), (1, .ref h1), (2, .int p2)]) hx hb dX5_readStatement_135 hl (of_decide_eq_true rfl) rfl (fun ls hl => ?_)
        refine lv_goto (tgt := 187) hx hb dX5_readStatement_137 (of_decide_eq_true rfl) ?_
        exact jp_20 (o_48.1, o_48.2.1, o_48.2.2.1, o_48.2.2.2.1, v2_0, o_48.2.2.2.2.2.2.2.2.2, o_48.2.2.2.2.1, o_48.2.2.2.2.2.1, o_48.2.2.2.2.2.2.1, o_48.2.2.2.2.2.2.2.1, o_48.2.2.2.2.2.2.2.2.1, v3_0, v3_1, f6, f8, f9, f10, f7, f14, f15, f11, f17, f16, f12, f13) H locs ls hfn hP hD hS (lv_sub hl [0, 2] rfl)
      have hfn := (if_neg c_47).symm.trans hfn
      have oc_47 := zk_ne rfl (by decide +kernel : (4 : Int32).toInt = 4) c_47
      by_cases c_52 : v1_7 = 5
      · have hfn := (if_pos c_52).symm.trans hfn
        refine W.eq (g2 := F0 m 63 ls [.int 5]) (by rw [c_52]) ?_
        refine lv_tableIn (tgt := 140) (off := 77) hx hb dX5_readStatement_63 (by decide +kernel) (by decide +kernel) (by decide +kernel) (of_decide_eq_true rfl) ?_
        refine lv_aload_n hx hb dX5_readStatement_140 rfl (lv_at hl 1 rfl) ?_
        refine lv_aload_n hx hb dX5_readStatement_141 rfl (lv_at hl 2 rfl) ?_
        obtain ⟨o_53, hqo_53, hfn⟩ := zb_s hfn
        refine zcVb (ci := 5) (rest := []) (pc' := 145) (ws' := [zV5 h0 r0_0 o_53.2.1 o_53.2.2.1 o_53.2.2.2.1, zV10 r0_0 r1_0 r1_1 v1_2 o_53.2.2.2.2.1 o_53.2.2.2.2.2.1 o_53.2.2.2.2.2.2.1 o_53.2.2.2.2.2.2.2.1 o_53.2.2.2.2.2.2.2.2.1, zV9 h1 v2_0 r2_1 r2_2 r2_3 r2_4 v2_5 r2_6 r2_7 r2_8, zV4 r2_6 o_53.2.2.2.2.2.2.2.2.2.1 o_53.2.2.2.2.2.2.2.2.2.2.1 r3_2 r3_3 r3_4 r3_5 r3_6 r3_7 r3_8 r3_9, zVi r1_1 k4 1200 f4, zVi r1_0 k5 13 f5, zVi r2_1 k6 4 f6, zVi r3_2 k7 14 o_53.2.2.2.2.2.2.2.2.2.2.2.1, zVi r2_2 k8 4 f8, zVi r2_3 k9 4 f9, zVi r2_4 k10 4 f10, zVi r3_5 k11 14 o_53.2.2.2.2.2.2.2.2.2.2.2.2.2.2.2.2.1, zVi r3_8 k12 28 o_53.2.2.2.2.2.2.2.2.2.2.2.2.1, zVi r3_9 k13 28 o_53.2.2.2.2.2.2.2.2.2.2.2.2.2.1, zVi r3_3 k14 14 o_53.2.2.2.2.2.2.2.2.2.2.2.2.2.2.1, zVi r3_4 k15 14 o_53.2.2.2.2.2.2.2.2.2.2.2.2.2.2.2.1, zVi r3_7 k16 14 o_53.2.2.2.2.2.2.2.2.2.2.2.2.2.2.2.2.2.1, zVi r3_6 k17 14 o_53.2.2.2.2.2.2.2.2.2.2.2.2.2.2.2.2.2.2]) hP hK hD hS hA ⟨hx, hb, hml, hown, hts⟩ (zf_X5_readBox l dC dI h0 h1 r0_0 v0_1 v0_2 v0_3 r1_0 r1_1 v1_2 o_16.1 o_16.2.1 o_16.2.2.1 o_16.2.2.2.1 o_16.2.2.2.2 v2_0 r2_1 r2_2 r2_3 r2_4 v2_5 r2_6 r2_7 r2_8 k6 f6 v3_0 v3_1 r3_2 r3_3 r3_4 r3_5 r3_6 r3_7 r3_8 r3_9 k7 f7 k4 f4 k5 f5 k12 f12 k13 f13 k14 f14 k15 f15 k11 f11 k16 f16 k17 f17 o_53 hqo_53 H.size) (cwV 1 hts gX5_readStatement_X5_readBox rfl rfl rfl zhd_X5_readBox ⟨Nat.le_of_ble_eq_true rfl, Nat.le_of_ble_eq_true rfl⟩) [0, 1, 2, 6, 3, 7, 4, 5, 12, 13, 14, 15, 11, 16, 17] rfl (of_decide_eq_true rfl) [2, 3, 0, 1, 8, 9, 10, 11, 7, 12, 13] rfl rfl rfl rfl hl.1 rfl (Nat.le_of_ble_eq_true rfl) dX5_readStatement_142 ⟨Nat.le_of_ble_eq_true rfl, Nat.le_of_ble_eq_true rfl⟩ [some 0, some 1, some 2, some 4, some 6, some 7, some 3, some 5, none, none, none, some 12, some 8, some 9, some 10, some 11, some 13, some 14] (of_decide_eq_true rfl) (of_decide_eq_true rfl) rfl rfl rfl (fun H locs hw_56n hP hD hS => ?_)
        refine lv_istore (lv' := [(4, .int o_53.1), (3, .int v1_7), (0, .ref h0), (1, .ref h1), (2, .int p2)]) hx hb dX5_readStatement_145 hl (of_decide_eq_true rfl) rfl (fun ls hl => ?_)
        refine lv_goto (tgt := 187) hx hb dX5_readStatement_147 (of_decide_eq_true rfl) ?_
        exact jp_20 (o_53.1, o_53.2.1, o_53.2.2.1, o_53.2.2.2.1, v2_0, v2_5, o_53.2.2.2.2.1, o_53.2.2.2.2.2.1, o_53.2.2.2.2.2.2.1, o_53.2.2.2.2.2.2.2.1, o_53.2.2.2.2.2.2.2.2.1, o_53.2.2.2.2.2.2.2.2.2.1, o_53.2.2.2.2.2.2.2.2.2.2.1, f6, f8, f9, f10, o_53.2.2.2.2.2.2.2.2.2.2.2.1, o_53.2.2.2.2.2.2.2.2.2.2.2.2.2.2.1, o_53.2.2.2.2.2.2.2.2.2.2.2.2.2.2.2.1, o_53.2.2.2.2.2.2.2.2.2.2.2.2.2.2.2.2.1, o_53.2.2.2.2.2.2.2.2.2.2.2.2.2.2.2.2.2.2, o_53.2.2.2.2.2.2.2.2.2.2.2.2.2.2.2.2.2.1, o_53.2.2.2.2.2.2.2.2.2.2.2.2.1, o_53.2.2.2.2.2.2.2.2.2.2.2.2.2.1) H locs ls hfn hP hD hS (lv_sub hl [0, 2] rfl)
      have hfn := (if_neg c_52).symm.trans hfn
      have oc_52 := zk_ne rfl (by decide +kernel : (5 : Int32).toInt = 5) c_52
      by_cases c_57 : v1_7 = 6
      · have hfn := (if_pos c_57).symm.trans hfn
        refine W.eq (g2 := F0 m 63 ls [.int 6]) (by rw [c_57]) ?_
        refine lv_tableIn (tgt := 150) (off := 87) hx hb dX5_readStatement_63 (by decide +kernel) (by decide +kernel) (by decide +kernel) (of_decide_eq_true rfl) ?_
        refine lv_aload_n hx hb dX5_readStatement_150 rfl (lv_at hl 1 rfl) ?_
        refine lv_aload_n hx hb dX5_readStatement_151 rfl (lv_at hl 2 rfl) ?_
        obtain ⟨o_58, hqo_58, hfn⟩ := zb_s hfn
        refine zcVb (ci := 5) (rest := []) (pc' := 155) (ws' := [zV5 h0 r0_0 o_58.2.1 o_58.2.2.1 o_58.2.2.2.1, zV10 r0_0 r1_0 r1_1 v1_2 o_58.2.2.2.2.1 o_58.2.2.2.2.2.1 o_58.2.2.2.2.2.2.1 o_58.2.2.2.2.2.2.2.1 o_58.2.2.2.2.2.2.2.2.1, zV9 h1 v2_0 r2_1 r2_2 r2_3 r2_4 v2_5 r2_6 r2_7 r2_8, zV4 r2_6 o_58.2.2.2.2.2.2.2.2.2.1 o_58.2.2.2.2.2.2.2.2.2.2.1 r3_2 r3_3 r3_4 r3_5 r3_6 r3_7 r3_8 r3_9, zVi r1_1 k4 1200 f4, zVi r1_0 k5 13 f5, zVi r2_1 k6 4 f6, zVi r3_2 k7 14 o_58.2.2.2.2.2.2.2.2.2.2.2.1, zVi r2_2 k8 4 f8, zVi r2_3 k9 4 f9, zVi r2_4 k10 4 f10, zVi r3_5 k11 14 o_58.2.2.2.2.2.2.2.2.2.2.2.2.2.2.2.2.1, zVi r3_8 k12 28 o_58.2.2.2.2.2.2.2.2.2.2.2.2.1, zVi r3_9 k13 28 o_58.2.2.2.2.2.2.2.2.2.2.2.2.2.1, zVi r3_3 k14 14 o_58.2.2.2.2.2.2.2.2.2.2.2.2.2.2.1, zVi r3_4 k15 14 o_58.2.2.2.2.2.2.2.2.2.2.2.2.2.2.2.1, zVi r3_7 k16 14 o_58.2.2.2.2.2.2.2.2.2.2.2.2.2.2.2.2.2.1, zVi r3_6 k17 14 o_58.2.2.2.2.2.2.2.2.2.2.2.2.2.2.2.2.2.2]) hP hK hD hS hA ⟨hx, hb, hml, hown, hts⟩ (zf_X5_readLet l dC dI h0 h1 r0_0 v0_1 v0_2 v0_3 r1_0 r1_1 v1_2 o_16.1 o_16.2.1 o_16.2.2.1 o_16.2.2.2.1 o_16.2.2.2.2 v2_0 r2_1 r2_2 r2_3 r2_4 v2_5 r2_6 r2_7 r2_8 k6 f6 v3_0 v3_1 r3_2 r3_3 r3_4 r3_5 r3_6 r3_7 r3_8 r3_9 k7 f7 k4 f4 k5 f5 k12 f12 k13 f13 k14 f14 k15 f15 k11 f11 k16 f16 k17 f17 o_58 hqo_58 H.size) (cwV 1 hts gX5_readStatement_X5_readLet rfl rfl rfl zhd_X5_readLet ⟨Nat.le_of_ble_eq_true rfl, Nat.le_of_ble_eq_true rfl⟩) [0, 1, 2, 6, 3, 7, 4, 5, 12, 13, 14, 15, 11, 16, 17] rfl (of_decide_eq_true rfl) [2, 3, 0, 1, 8, 9, 10, 11, 7, 12, 13] rfl rfl rfl rfl hl.1 rfl (Nat.le_of_ble_eq_true rfl) dX5_readStatement_152 ⟨Nat.le_of_ble_eq_true rfl, Nat.le_of_ble_eq_true rfl⟩ [some 0, some 1, some 2, some 4, some 6, some 7, some 3, some 5, none, none, none, some 12, some 8, some 9, some 10, some 11, some 13, some 14] (of_decide_eq_true rfl) (of_decide_eq_true rfl) rfl rfl rfl (fun H locs hw_61n hP hD hS => ?_)
        refine lv_istore (lv' := [(4, .int o_58.1), (3, .int v1_7), (0, .ref h0), (1, .ref h1), (2, .int p2)]) hx hb dX5_readStatement_155 hl (of_decide_eq_true rfl) rfl (fun ls hl => ?_)
        refine lv_goto (tgt := 187) hx hb dX5_readStatement_157 (of_decide_eq_true rfl) ?_
        exact jp_20 (o_58.1, o_58.2.1, o_58.2.2.1, o_58.2.2.2.1, v2_0, v2_5, o_58.2.2.2.2.1, o_58.2.2.2.2.2.1, o_58.2.2.2.2.2.2.1, o_58.2.2.2.2.2.2.2.1, o_58.2.2.2.2.2.2.2.2.1, o_58.2.2.2.2.2.2.2.2.2.1, o_58.2.2.2.2.2.2.2.2.2.2.1, f6, f8, f9, f10, o_58.2.2.2.2.2.2.2.2.2.2.2.1, o_58.2.2.2.2.2.2.2.2.2.2.2.2.2.2.1, o_58.2.2.2.2.2.2.2.2.2.2.2.2.2.2.2.1, o_58.2.2.2.2.2.2.2.2.2.2.2.2.2.2.2.2.1, o_58.2.2.2.2.2.2.2.2.2.2.2.2.2.2.2.2.2.2, o_58.2.2.2.2.2.2.2.2.2.2.2.2.2.2.2.2.2.1, o_58.2.2.2.2.2.2.2.2.2.2.2.2.1, o_58.2.2.2.2.2.2.2.2.2.2.2.2.2.1) H locs ls hfn hP hD hS (lv_sub hl [0, 2] rfl)
      have hfn := (if_neg c_57).symm.trans hfn
      have oc_57 := zk_ne rfl (by decide +kernel : (6 : Int32).toInt = 6) c_57
      by_cases c_62 : v1_7 = 7
      · have hfn := (if_pos c_62).symm.trans hfn
        refine W.eq (g2 := F0 m 63 ls [.int 7]) (by rw [c_62]) ?_
        refine lv_tableIn (tgt := 180) (off := 117) hx hb dX5_readStatement_63 (by decide +kernel) (by decide +kernel) (by decide +kernel) (of_decide_eq_true rfl) ?_
        refine lv_aload_n hx hb dX5_readStatement_180 rfl (lv_at hl 1 rfl) ?_
        refine lv_aload_n hx hb dX5_readStatement_181 rfl (lv_at hl 2 rfl) ?_
        obtain ⟨o_63, hqo_63, hfn⟩ := zb_s hfn
        refine zcVb (ci := 5) (rest := []) (pc' := 185) (ws' := [zV5 h0 r0_0 o_63.2.1 o_63.2.2.1 o_63.2.2.2.1, zV10 r0_0 r1_0 r1_1 v1_2 o_63.2.2.2.2.1 o_63.2.2.2.2.2.1 o_63.2.2.2.2.2.2.1 o_63.2.2.2.2.2.2.2.1 o_63.2.2.2.2.2.2.2.2.1, zV9 h1 v2_0 r2_1 r2_2 r2_3 r2_4 v2_5 r2_6 r2_7 r2_8, zV4 r2_6 v3_0 v3_1 r3_2 r3_3 r3_4 r3_5 r3_6 r3_7 r3_8 r3_9, zVi r1_1 k4 1200 f4, zVi r1_0 k5 13 f5, zVi r2_1 k6 4 f6, zVi r3_2 k7 14 f7, zVi r2_2 k8 4 f8, zVi r2_3 k9 4 f9, zVi r2_4 k10 4 f10, zVi r3_5 k11 14 o_63.2.2.2.2.2.2.2.2.2, zVi r3_8 k12 28 f12, zVi r3_9 k13 28 f13, zVi r3_3 k14 14 f14, zVi r3_4 k15 14 f15, zVi r3_7 k16 14 f16, zVi r3_6 k17 14 f17]) hP hK hD hS hA ⟨hx, hb, hml, hown, hts⟩ (zf_X5_readAnswer l dC dI h0 h1 r0_0 v0_1 v0_2 v0_3 v2_0 r2_1 r2_2 r2_3 r2_4 v2_5 r2_6 r2_7 r2_8 r1_0 r1_1 v1_2 o_16.1 o_16.2.1 o_16.2.2.1 o_16.2.2.2.1 o_16.2.2.2.2 v3_0 v3_1 r3_2 r3_3 r3_4 r3_5 r3_6 r3_7 r3_8 r3_9 k7 f7 k4 f4 k5 f5 k11 f11 o_63 hqo_63 H.size) (cwV 1 hts gX5_readStatement_X5_readAnswer rfl rfl rfl zhd_X5_readAnswer ⟨Nat.le_of_ble_eq_true rfl, Nat.le_of_ble_eq_true rfl⟩) [0, 2, 1, 3, 7, 4, 5, 11] rfl (of_decide_eq_true rfl) [3, 0, 1, 7] rfl rfl rfl rfl hl.1 rfl (Nat.le_of_ble_eq_true rfl) dX5_readStatement_182 ⟨Nat.le_of_ble_eq_true rfl, Nat.le_of_ble_eq_true rfl⟩ [some 0, some 2, some 1, some 3, some 5, some 6, none, some 4, none, none, none, some 7] (of_decide_eq_true rfl) (of_decide_eq_true rfl) rfl rfl rfl (fun H locs hw_66n hP hD hS => ?_)
        refine lv_istore (lv' := [(4, .int o_63.1), (3, .int v1_7), (0, .ref h0), (1, .ref h1), (2, .int p2)]) hx hb dX5_readStatement_185 hl (of_decide_eq_true rfl) rfl (fun ls hl => ?_)
        exact jp_20 (o_63.1, o_63.2.1, o_63.2.2.1, o_63.2.2.2.1, v2_0, v2_5, o_63.2.2.2.2.1, o_63.2.2.2.2.2.1, o_63.2.2.2.2.2.2.1, o_63.2.2.2.2.2.2.2.1, o_63.2.2.2.2.2.2.2.2.1, v3_0, v3_1, f6, f8, f9, f10, f7, f14, f15, o_63.2.2.2.2.2.2.2.2.2, f17, f16, f12, f13) H locs ls hfn hP hD hS (lv_sub hl [0, 2] rfl)
      have hfn := (if_neg c_62).symm.trans hfn
      have oc_62 := zk_ne rfl (by decide +kernel : (7 : Int32).toInt = 7) c_62
      by_cases c_67 : v1_7 = 8
      · have hfn := (if_pos c_67).symm.trans hfn
        refine W.eq (g2 := F0 m 63 ls [.int 8]) (by rw [c_67]) ?_
        refine lv_tableIn (tgt := 180) (off := 117) hx hb dX5_readStatement_63 (by decide +kernel) (by decide +kernel) (by decide +kernel) (of_decide_eq_true rfl) ?_
        refine lv_aload_n hx hb dX5_readStatement_180 rfl (lv_at hl 1 rfl) ?_
        refine lv_aload_n hx hb dX5_readStatement_181 rfl (lv_at hl 2 rfl) ?_
        obtain ⟨o_68, hqo_68, hfn⟩ := zb_s hfn
        refine zcVb (ci := 5) (rest := []) (pc' := 185) (ws' := [zV5 h0 r0_0 o_68.2.1 o_68.2.2.1 o_68.2.2.2.1, zV10 r0_0 r1_0 r1_1 v1_2 o_68.2.2.2.2.1 o_68.2.2.2.2.2.1 o_68.2.2.2.2.2.2.1 o_68.2.2.2.2.2.2.2.1 o_68.2.2.2.2.2.2.2.2.1, zV9 h1 v2_0 r2_1 r2_2 r2_3 r2_4 v2_5 r2_6 r2_7 r2_8, zV4 r2_6 v3_0 v3_1 r3_2 r3_3 r3_4 r3_5 r3_6 r3_7 r3_8 r3_9, zVi r1_1 k4 1200 f4, zVi r1_0 k5 13 f5, zVi r2_1 k6 4 f6, zVi r3_2 k7 14 f7, zVi r2_2 k8 4 f8, zVi r2_3 k9 4 f9, zVi r2_4 k10 4 f10, zVi r3_5 k11 14 o_68.2.2.2.2.2.2.2.2.2, zVi r3_8 k12 28 f12, zVi r3_9 k13 28 f13, zVi r3_3 k14 14 f14, zVi r3_4 k15 14 f15, zVi r3_7 k16 14 f16, zVi r3_6 k17 14 f17]) hP hK hD hS hA ⟨hx, hb, hml, hown, hts⟩ (zf_X5_readAnswer l dC dI h0 h1 r0_0 v0_1 v0_2 v0_3 v2_0 r2_1 r2_2 r2_3 r2_4 v2_5 r2_6 r2_7 r2_8 r1_0 r1_1 v1_2 o_16.1 o_16.2.1 o_16.2.2.1 o_16.2.2.2.1 o_16.2.2.2.2 v3_0 v3_1 r3_2 r3_3 r3_4 r3_5 r3_6 r3_7 r3_8 r3_9 k7 f7 k4 f4 k5 f5 k11 f11 o_68 hqo_68 H.size) (cwV 1 hts gX5_readStatement_X5_readAnswer rfl rfl rfl zhd_X5_readAnswer ⟨Nat.le_of_ble_eq_true rfl, Nat.le_of_ble_eq_true rfl⟩) [0, 2, 1, 3, 7, 4, 5, 11] rfl (of_decide_eq_true rfl) [3, 0, 1, 7] rfl rfl rfl rfl hl.1 rfl (Nat.le_of_ble_eq_true rfl) dX5_readStatement_182 ⟨Nat.le_of_ble_eq_true rfl, Nat.le_of_ble_eq_true rfl⟩ [some 0, some 2, some 1, some 3, some 5, some 6, none, some 4, none, none, none, some 7] (of_decide_eq_true rfl) (of_decide_eq_true rfl) rfl rfl rfl (fun H locs hw_71n hP hD hS => ?_)
        refine lv_istore (lv' := [(4, .int o_68.1), (3, .int v1_7), (0, .ref h0), (1, .ref h1), (2, .int p2)]) hx hb dX5_readStatement_185 hl (of_decide_eq_true rfl) rfl (fun ls hl => ?_)
        exact jp_20 (o_68.1, o_68.2.1, o_68.2.2.1, o_68.2.2.2.1, v2_0, v2_5, o_68.2.2.2.2.1, o_68.2.2.2.2.2.1, o_68.2.2.2.2.2.2.1, o_68.2.2.2.2.2.2.2.1, o_68.2.2.2.2.2.2.2.2.1, v3_0, v3_1, f6, f8, f9, f10, f7, f14, f15, o_68.2.2.2.2.2.2.2.2.2, f17, f16, f12, f13) H locs ls hfn hP hD hS (lv_sub hl [0, 2] rfl)
      have hfn := (if_neg c_67).symm.trans hfn
      have oc_67 := zk_ne rfl (by decide +kernel : (8 : Int32).toInt = 8) c_67
      by_cases c_72 : v1_7 = 9
      · have hfn := (if_pos c_72).symm.trans hfn
        refine W.eq (g2 := F0 m 63 ls [.int 9]) (by rw [c_72]) ?_
        refine lv_tableIn (tgt := 160) (off := 97) hx hb dX5_readStatement_63 (by decide +kernel) (by decide +kernel) (by decide +kernel) (of_decide_eq_true rfl) ?_
        refine lv_aload_n hx hb dX5_readStatement_160 rfl (lv_at hl 1 rfl) ?_
        refine lv_aload_n hx hb dX5_readStatement_161 rfl (lv_at hl 2 rfl) ?_
        obtain ⟨o_73, hqo_73, hfn⟩ := zb_s hfn
        refine zcVb (ci := 5) (rest := []) (pc' := 165) (ws' := [zV5 h0 r0_0 o_73.2.1 o_73.2.2.1 o_73.2.2.2.1, zV10 r0_0 r1_0 r1_1 v1_2 o_73.2.2.2.2.1 o_73.2.2.2.2.2.1 o_73.2.2.2.2.2.2.1 o_73.2.2.2.2.2.2.2.1 o_73.2.2.2.2.2.2.2.2.1, zV9 h1 v2_0 r2_1 r2_2 r2_3 r2_4 v2_5 r2_6 r2_7 r2_8, zV4 r2_6 v3_0 v3_1 r3_2 r3_3 r3_4 r3_5 r3_6 r3_7 r3_8 r3_9, zVi r1_1 k4 1200 f4, zVi r1_0 k5 13 f5, zVi r2_1 k6 4 f6, zVi r3_2 k7 14 f7, zVi r2_2 k8 4 f8, zVi r2_3 k9 4 f9, zVi r2_4 k10 4 f10, zVi r3_5 k11 14 f11, zVi r3_8 k12 28 f12, zVi r3_9 k13 28 f13, zVi r3_3 k14 14 f14, zVi r3_4 k15 14 o_73.2.2.2.2.2.2.2.2.2, zVi r3_7 k16 14 f16, zVi r3_6 k17 14 f17]) hP hK hD hS hA ⟨hx, hb, hml, hown, hts⟩ (zf_X5_readFixed l dC dI h0 h1 r0_0 v0_1 v0_2 v0_3 v2_0 r2_1 r2_2 r2_3 r2_4 v2_5 r2_6 r2_7 r2_8 r1_0 r1_1 v1_2 o_16.1 o_16.2.1 o_16.2.2.1 o_16.2.2.2.1 o_16.2.2.2.2 v3_0 v3_1 r3_2 r3_3 r3_4 r3_5 r3_6 r3_7 r3_8 r3_9 k7 f7 k4 f4 k5 f5 k6 f6 k15 f15 o_73 hqo_73 H.size) (cwV 1 hts gX5_readStatement_X5_readFixed rfl rfl rfl zhd_X5_readFixed ⟨Nat.le_of_ble_eq_true rfl, Nat.le_of_ble_eq_true rfl⟩) [0, 2, 1, 3, 7, 4, 5, 6, 15] rfl (of_decide_eq_true rfl) [3, 0, 1, 2, 11] rfl rfl rfl rfl hl.1 rfl (Nat.le_of_ble_eq_true rfl) dX5_readStatement_162 ⟨Nat.le_of_ble_eq_true rfl, Nat.le_of_ble_eq_true rfl⟩ [some 0, some 2, some 1, some 3, some 5, some 6, some 7, some 4, none, none, none, none, none, none, none, some 8] (of_decide_eq_true rfl) (of_decide_eq_true rfl) rfl rfl rfl (fun H locs hw_76n hP hD hS => ?_)
        refine lv_istore (lv' := [(4, .int o_73.1), (3, .int v1_7), (0, .ref h0), (1, .ref h1), (2, .int p2)]) hx hb dX5_readStatement_165 hl (of_decide_eq_true rfl) rfl (fun ls hl => ?_)
        refine lv_goto (tgt := 187) hx hb dX5_readStatement_167 (of_decide_eq_true rfl) ?_
        exact jp_20 (o_73.1, o_73.2.1, o_73.2.2.1, o_73.2.2.2.1, v2_0, v2_5, o_73.2.2.2.2.1, o_73.2.2.2.2.2.1, o_73.2.2.2.2.2.2.1, o_73.2.2.2.2.2.2.2.1, o_73.2.2.2.2.2.2.2.2.1, v3_0, v3_1, f6, f8, f9, f10, f7, f14, o_73.2.2.2.2.2.2.2.2.2, f11, f17, f16, f12, f13) H locs ls hfn hP hD hS (lv_sub hl [0, 2] rfl)
      have hfn := (if_neg c_72).symm.trans hfn
      have oc_72 := zk_ne rfl (by decide +kernel : (9 : Int32).toInt = 9) c_72
      by_cases c_77 : v1_7 = 10
      · have hfn := (if_pos c_77).symm.trans hfn
        refine W.eq (g2 := F0 m 63 ls [.int 10]) (by rw [c_77]) ?_
        refine lv_tableIn (tgt := 170) (off := 107) hx hb dX5_readStatement_63 (by decide +kernel) (by decide +kernel) (by decide +kernel) (of_decide_eq_true rfl) ?_
        refine lv_aload_n hx hb dX5_readStatement_170 rfl (lv_at hl 1 rfl) ?_
        refine lv_aload_n hx hb dX5_readStatement_171 rfl (lv_at hl 2 rfl) ?_
        obtain ⟨o_78, hqo_78, hfn⟩ := zb_s hfn
        refine zcVb (ci := 5) (rest := []) (pc' := 175) (ws' := [zV5 h0 r0_0 o_78.2.1 o_78.2.2.1 o_78.2.2.2.1, zV10 r0_0 r1_0 r1_1 v1_2 o_78.2.2.2.2.1 o_78.2.2.2.2.2.1 o_78.2.2.2.2.2.2.1 o_78.2.2.2.2.2.2.2.1 o_78.2.2.2.2.2.2.2.2.1, zV9 h1 v2_0 r2_1 r2_2 r2_3 r2_4 v2_5 r2_6 r2_7 r2_8, zV4 r2_6 v3_0 v3_1 r3_2 r3_3 r3_4 r3_5 r3_6 r3_7 r3_8 r3_9, zVi r1_1 k4 1200 f4, zVi r1_0 k5 13 f5, zVi r2_1 k6 4 f6, zVi r3_2 k7 14 f7, zVi r2_2 k8 4 f8, zVi r2_3 k9 4 f9, zVi r2_4 k10 4 f10, zVi r3_5 k11 14 f11, zVi r3_8 k12 28 f12, zVi r3_9 k13 28 f13, zVi r3_3 k14 14 f14, zVi r3_4 k15 14 f15, zVi r3_7 k16 14 o_78.2.2.2.2.2.2.2.2.2, zVi r3_6 k17 14 f17]) hP hK hD hS hA ⟨hx, hb, hml, hown, hts⟩ (zf_X5_readGroup l dC dI h0 h1 r0_0 v0_1 v0_2 v0_3 v2_0 r2_1 r2_2 r2_3 r2_4 v2_5 r2_6 r2_7 r2_8 r1_0 r1_1 v1_2 o_16.1 o_16.2.1 o_16.2.2.1 o_16.2.2.2.1 o_16.2.2.2.2 v3_0 v3_1 r3_2 r3_3 r3_4 r3_5 r3_6 r3_7 r3_8 r3_9 k7 f7 k4 f4 k5 f5 k16 f16 o_78 hqo_78 H.size) (cwV 1 hts gX5_readStatement_X5_readGroup rfl rfl rfl zhd_X5_readGroup ⟨Nat.le_of_ble_eq_true rfl, Nat.le_of_ble_eq_true rfl⟩) [0, 2, 1, 3, 7, 4, 5, 16] rfl (of_decide_eq_true rfl) [3, 0, 1, 12] rfl rfl rfl rfl hl.1 rfl (Nat.le_of_ble_eq_true rfl) dX5_readStatement_172 ⟨Nat.le_of_ble_eq_true rfl, Nat.le_of_ble_eq_true rfl⟩ [some 0, some 2, some 1, some 3, some 5, some 6, none, some 4, none, none, none, none, none, none, none, none, some 7] (of_decide_eq_true rfl) (of_decide_eq_true rfl) rfl rfl rfl (fun H locs hw_81n hP hD hS => ?_)
        refine lv_istore (lv' := [(4, .int o_78.1), (3, .int v1_7), (0, .ref h0), (1, .ref h1), (2, .int p2)]) hx hb dX5_readStatement_175 hl (of_decide_eq_true rfl) rfl (fun ls hl => ?_)
        refine lv_goto (tgt := 187) hx hb dX5_readStatement_177 (of_decide_eq_true rfl) ?_
        exact jp_20 (o_78.1, o_78.2.1, o_78.2.2.1, o_78.2.2.2.1, v2_0, v2_5, o_78.2.2.2.2.1, o_78.2.2.2.2.2.1, o_78.2.2.2.2.2.2.1, o_78.2.2.2.2.2.2.2.1, o_78.2.2.2.2.2.2.2.2.1, v3_0, v3_1, f6, f8, f9, f10, f7, f14, f15, f11, f17, o_78.2.2.2.2.2.2.2.2.2, f12, f13) H locs ls hfn hP hD hS (lv_sub hl [0, 2] rfl)
      have hfn := (if_neg c_77).symm.trans hfn
      have oc_77 := zk_ne rfl (by decide +kernel : (10 : Int32).toInt = 10) c_77
      refine lv_tableOut (tgt := 180) hx hb dX5_readStatement_63 (by omega) (of_decide_eq_true rfl) ?_
      refine lv_aload_n hx hb dX5_readStatement_180 rfl (lv_at hl 1 rfl) ?_
      refine lv_aload_n hx hb dX5_readStatement_181 rfl (lv_at hl 2 rfl) ?_
      obtain ⟨o_82, hqo_82, hfn⟩ := zb_s hfn
      refine zcVb (ci := 5) (rest := []) (pc' := 185) (ws' := [zV5 h0 r0_0 o_82.2.1 o_82.2.2.1 o_82.2.2.2.1, zV10 r0_0 r1_0 r1_1 v1_2 o_82.2.2.2.2.1 o_82.2.2.2.2.2.1 o_82.2.2.2.2.2.2.1 o_82.2.2.2.2.2.2.2.1 o_82.2.2.2.2.2.2.2.2.1, zV9 h1 v2_0 r2_1 r2_2 r2_3 r2_4 v2_5 r2_6 r2_7 r2_8, zV4 r2_6 v3_0 v3_1 r3_2 r3_3 r3_4 r3_5 r3_6 r3_7 r3_8 r3_9, zVi r1_1 k4 1200 f4, zVi r1_0 k5 13 f5, zVi r2_1 k6 4 f6, zVi r3_2 k7 14 f7, zVi r2_2 k8 4 f8, zVi r2_3 k9 4 f9, zVi r2_4 k10 4 f10, zVi r3_5 k11 14 o_82.2.2.2.2.2.2.2.2.2, zVi r3_8 k12 28 f12, zVi r3_9 k13 28 f13, zVi r3_3 k14 14 f14, zVi r3_4 k15 14 f15, zVi r3_7 k16 14 f16, zVi r3_6 k17 14 f17]) hP hK hD hS hA ⟨hx, hb, hml, hown, hts⟩ (zf_X5_readAnswer l dC dI h0 h1 r0_0 v0_1 v0_2 v0_3 v2_0 r2_1 r2_2 r2_3 r2_4 v2_5 r2_6 r2_7 r2_8 r1_0 r1_1 v1_2 o_16.1 o_16.2.1 o_16.2.2.1 o_16.2.2.2.1 o_16.2.2.2.2 v3_0 v3_1 r3_2 r3_3 r3_4 r3_5 r3_6 r3_7 r3_8 r3_9 k7 f7 k4 f4 k5 f5 k11 f11 o_82 hqo_82 H.size) (cwV 1 hts gX5_readStatement_X5_readAnswer rfl rfl rfl zhd_X5_readAnswer ⟨Nat.le_of_ble_eq_true rfl, Nat.le_of_ble_eq_true rfl⟩) [0, 2, 1, 3, 7, 4, 5, 11] rfl (of_decide_eq_true rfl) [3, 0, 1, 7] rfl rfl rfl rfl hl.1 rfl (Nat.le_of_ble_eq_true rfl) dX5_readStatement_182 ⟨Nat.le_of_ble_eq_true rfl, Nat.le_of_ble_eq_true rfl⟩ [some 0, some 2, some 1, some 3, some 5, some 6, none, some 4, none, none, none, some 7] (of_decide_eq_true rfl) (of_decide_eq_true rfl) rfl rfl rfl (fun H locs hw_85n hP hD hS => ?_)
      refine lv_istore (lv' := [(4, .int o_82.1), (3, .int v1_7), (0, .ref h0), (1, .ref h1), (2, .int p2)]) hx hb dX5_readStatement_185 hl (of_decide_eq_true rfl) rfl (fun ls hl => ?_)
      exact jp_20 (o_82.1, o_82.2.1, o_82.2.2.1, o_82.2.2.2.1, v2_0, v2_5, o_82.2.2.2.2.1, o_82.2.2.2.2.2.1, o_82.2.2.2.2.2.2.1, o_82.2.2.2.2.2.2.2.1, o_82.2.2.2.2.2.2.2.2.1, v3_0, v3_1, f6, f8, f9, f10, f7, f14, f15, o_82.2.2.2.2.2.2.2.2.2, f17, f16, f12, f13) H locs ls hfn hP hD hS (lv_sub hl [0, 2] rfl)
    have hfn := (if_neg c_15).symm.trans hfn
    refine lv_aload_n hx hb dX5_readStatement_42 rfl (lv_at hl 1 rfl) ?_
    refine lv_iconst (v := 4) hx hb dX5_readStatement_43 zci_4 ?_
    refine lv_aload_n hx hb dX5_readStatement_44 rfl (lv_at hl 1 rfl) ?_
    refine va_get (D := (dC, dI)) (ci := 5) (v := .ref r0_0) (C := RX5) (T := TX5) (N := 4) hx hb hts zn_X5_readStatement_X5 hown hK hP 0 rfl rfl 0 (of_decide_eq_true rfl) (hts (.fieldLink RX5 12 "ShortEnough$Parser" "words" "LShortEnough$Words;") zw_X5_readStatement_412) (fun _ h9 => h9) rfl dX5_readStatement_45 ?_
    refine va_get (D := (dC, dI)) (ci := 10) (v := .int v1_5) (C := RX10) (T := TX10) (N := 8) hx hb hts zn_X5_readStatement_X10 hown hK hP 1 rfl rfl 5 (of_decide_eq_true rfl) (hts (.fieldLink RX5 64 "ShortEnough$Words" "start" "I") zw_X5_readStatement_415) (fun _ h9 => h9) rfl dX5_readStatement_48 ?_
    obtain ⟨o_86, hqo_86, hfn⟩ := zb_s hfn
    refine zcVb (ci := 5) (rest := []) (pc' := 54) (ws' := [zV5 h0 r0_0 v0_1 o_86.2.1 o_86.2.2, zV10 r0_0 r1_0 r1_1 v1_2 v1_3 v1_4 v1_5 v1_6 v1_7, zV9 h1 v2_0 r2_1 r2_2 r2_3 r2_4 v2_5 r2_6 r2_7 r2_8, zV4 r2_6 v3_0 v3_1 r3_2 r3_3 r3_4 r3_5 r3_6 r3_7 r3_8 r3_9, zVi r1_1 k4 1200 f4, zVi r1_0 k5 13 f5, zVi r2_1 k6 4 f6, zVi r3_2 k7 14 f7, zVi r2_2 k8 4 f8, zVi r2_3 k9 4 f9, zVi r2_4 k10 4 f10, zVi r3_5 k11 14 f11, zVi r3_8 k12 28 f12, zVi r3_9 k13 28 f13, zVi r3_3 k14 14 f14, zVi r3_4 k15 14 f15, zVi r3_7 k16 14 f16, zVi r3_6 k17 14 f17]) hP hK hD hS hA ⟨hx, hb, hml, hown, hts⟩ (zf_X5_stopAt l dC dI h0 4 v1_5 r0_0 v0_1 v0_2 v0_3 o_86 hqo_86 H.size) (cwV 2 hts gX5_readStatement_X5_stopAt rfl rfl rfl zhd_X5_stopAt ⟨Nat.le_of_ble_eq_true rfl, Nat.le_of_ble_eq_true rfl⟩) [0] rfl (of_decide_eq_true rfl) [] rfl rfl rfl rfl hl.1 rfl (Nat.le_of_ble_eq_true rfl) dX5_readStatement_51 ⟨Nat.le_of_ble_eq_true rfl, Nat.le_of_ble_eq_true rfl⟩ [some 0] (of_decide_eq_true rfl) (of_decide_eq_true rfl) rfl rfl rfl (fun H locs hw_89n hP hD hS => ?_)
    have ho := Option.some.inj hfn
    subst ho
    exact zrz hx hb hr hw_89n hK hP hD hS hQ ⟨rfl, hw_89n⟩ hlocks dX5_readStatement_54
  have hfn := (if_pos c_5).symm.trans hfn
  refine lv_aload_n hx hb dX5_readStatement_15 rfl (lv_at hl 1 rfl) ?_
  refine lv_iconst (v := 1) hx hb dX5_readStatement_16 zci_1 ?_
  refine lv_aload_n hx hb dX5_readStatement_17 rfl (lv_at hl 1 rfl) ?_
  refine va_get (D := (dC, dI)) (ci := 5) (v := .ref r0_0) (C := RX5) (T := TX5) (N := 4) hx hb hts zn_X5_readStatement_X5 hown hK hP 0 rfl rfl 0 (of_decide_eq_true rfl) (hts (.fieldLink RX5 12 "ShortEnough$Parser" "words" "LShortEnough$Words;") zw_X5_readStatement_412) (fun _ h9 => h9) rfl dX5_readStatement_18 ?_
  refine va_get (D := (dC, dI)) (ci := 10) (v := .int v1_5) (C := RX10) (T := TX10) (N := 8) hx hb hts zn_X5_readStatement_X10 hown hK hP 1 rfl rfl 5 (of_decide_eq_true rfl) (hts (.fieldLink RX5 64 "ShortEnough$Words" "start" "I") zw_X5_readStatement_415) (fun _ h9 => h9) rfl dX5_readStatement_21 ?_
  obtain ⟨o_90, hqo_90, hfn⟩ := zb_s hfn
  refine zcVb (ci := 5) (rest := []) (pc' := 27) (ws' := [zV5 h0 r0_0 v0_1 o_90.2.1 o_90.2.2, zV10 r0_0 r1_0 r1_1 v1_2 v1_3 v1_4 v1_5 v1_6 v1_7, zV9 h1 v2_0 r2_1 r2_2 r2_3 r2_4 v2_5 r2_6 r2_7 r2_8, zV4 r2_6 v3_0 v3_1 r3_2 r3_3 r3_4 r3_5 r3_6 r3_7 r3_8 r3_9, zVi r1_1 k4 1200 f4, zVi r1_0 k5 13 f5, zVi r2_1 k6 4 f6, zVi r3_2 k7 14 f7, zVi r2_2 k8 4 f8, zVi r2_3 k9 4 f9, zVi r2_4 k10 4 f10, zVi r3_5 k11 14 f11, zVi r3_8 k12 28 f12, zVi r3_9 k13 28 f13, zVi r3_3 k14 14 f14, zVi r3_4 k15 14 f15, zVi r3_7 k16 14 f16, zVi r3_6 k17 14 f17]) hP hK hD hS hA ⟨hx, hb, hml, hown, hts⟩ (zf_X5_stopAt l dC dI h0 1 v1_5 r0_0 v0_1 v0_2 v0_3 o_90 hqo_90 H.size) (cwV 2 hts gX5_readStatement_X5_stopAt rfl rfl rfl zhd_X5_stopAt ⟨Nat.le_of_ble_eq_true rfl, Nat.le_of_ble_eq_true rfl⟩) [0] rfl (of_decide_eq_true rfl) [] rfl rfl rfl rfl hl.1 rfl (Nat.le_of_ble_eq_true rfl) dX5_readStatement_24 ⟨Nat.le_of_ble_eq_true rfl, Nat.le_of_ble_eq_true rfl⟩ [some 0] (of_decide_eq_true rfl) (of_decide_eq_true rfl) rfl rfl rfl (fun H locs hw_93n hP hD hS => ?_)
  have ho := Option.some.inj hfn
  subst ho
  exact zrz hx hb hr hw_93n hK hP hD hS hQ ⟨rfl, hw_93n⟩ hlocks dX5_readStatement_27
theorem zn_X5_read_X5 : ∀ w ∈ wsX50, w ∈ wsX5_read := fun _ h => List.mem_cons_of_mem _ (List.mem_append_left _ (List.mem_append_left _ (List.mem_append_left _ (List.mem_append_right _ h))))
theorem zw_X5_read_374 : Cond.fieldLink RX5 22 "ShortEnough$Parser" "faultKind" "I" ∈ wsX5_read := List.mem_of_getElem? (i := 1) (by decide +kernel)
theorem zw_X5_read_375 : Cond.fieldLink RX5 18 "ShortEnough$Parser" "faultPlace" "I" ∈ wsX5_read := List.mem_of_getElem? (i := 2) (by decide +kernel)
theorem zw_X5_read_383 : Cond.fieldLink RX5 12 "ShortEnough$Parser" "words" "LShortEnough$Words;" ∈ wsX5_read := List.mem_of_getElem? (i := 3) (by decide +kernel)
theorem zn_X5_read_X10 : ∀ w ∈ wsX100, w ∈ wsX5_read := fun _ h => List.mem_cons_of_mem _ (List.mem_append_left _ (List.mem_append_left _ (List.mem_append_right _ h)))
theorem zw_X5_read_410 : Cond.fieldLink RX5 34 "ShortEnough$Words" "kind" "I" ∈ wsX5_read := List.mem_of_getElem? (i := 4) (by decide +kernel)
theorem zn_X5_read_X9 : ∀ w ∈ wsX90, w ∈ wsX5_read := fun _ h => List.mem_cons_of_mem _ (List.mem_append_left _ (List.mem_append_right _ h))
theorem zw_X5_read_527 : Cond.fieldLink RX5 41 "ShortEnough$Task" "formats" "I" ∈ wsX5_read := List.mem_of_getElem? (i := 5) (by decide +kernel)
theorem zw_X5_read_528 : Cond.fieldLink RX5 44 "ShortEnough$Task" "numbers" "LShortEnough$Numbers;" ∈ wsX5_read := List.mem_of_getElem? (i := 6) (by decide +kernel)
theorem zn_X5_read_X4 : ∀ w ∈ wsX40, w ∈ wsX5_read := fun _ h => List.mem_cons_of_mem _ (List.mem_append_right _ h)
theorem zw_X5_read_530 : Cond.fieldLink RX5 48 "ShortEnough$Numbers" "count" "I" ∈ wsX5_read := List.mem_of_getElem? (i := 7) (by decide +kernel)
set_option maxHeartbeats 4000000 in
set_option maxRecDepth 100000 in
theorem zf_X5_read (l : Launch) (dC : Nat → ClassId) (dI : Nat → Nat → Nat) (h0 : Nat) (h1 : Nat) (p2 : Int32) (h3 : Nat) (r0_0 : Nat) (v0_1 : Int32) (v0_2 : Int32) (v0_3 : Int32) (v1_0 : Int32) (r1_1 : Nat) (r1_2 : Nat) (r1_3 : Nat) (r1_4 : Nat) (v1_5 : Int32) (r1_6 : Nat) (r1_7 : Nat) (r1_8 : Nat) (v2_0 : Int32) (v2_1 : Int32) (r2_2 : Nat) (r2_3 : Nat) (r2_4 : Nat) (r2_5 : Nat) (r2_6 : Nat) (r2_7 : Nat) (r2_8 : Nat) (r2_9 : Nat) (r3_0 : Nat) (r3_1 : Nat) (v3_2 : Int32) (v3_3 : Int32) (v3_4 : Int32) (v3_5 : Int32) (v3_6 : Int32) (v3_7 : Int32) (k4 : Nat) (f4 : Nat → Int32) (k5 : Nat) (f5 : Nat → Int32) (k6 : Nat) (f6 : Nat → Int32) (k7 : Nat) (f7 : Nat → Int32) (k8 : Nat) (f8 : Nat → Int32) (k9 : Nat) (f9 : Nat → Int32) (k10 : Nat) (f10 : Nat → Int32) (k11 : Nat) (f11 : Nat → Int32) (k12 : Nat) (f12 : Nat → Int32) (k13 : Nat) (f13 : Nat → Int32) (k14 : Nat) (f14 : Nat → Int32) (k15 : Nat) (f15 : Nat → Int32) (k16 : Nat) (f16 : Nat → Int32) (k17 : Nat) (f17 : Nat → Int32) (o : Int32 × Int32 × Int32 × Int32 × Int32 × Int32 × Int32 × Int32 × Int32 × Int32 × Int32 × Int32 × Int32 × Int32 × (Nat → Int32) × (Nat → Int32) × (Nat → Int32) × (Nat → Int32) × (Nat → Int32) × (Nat → Int32) × (Nat → Int32) × (Nat → Int32) × (Nat → Int32) × (Nat → Int32) × (Nat → Int32) × (Nat → Int32)) (hfn : fn_X5_read p2 v0_1 f4 f5 f6 f7 f8 f9 f10 f11 f12 f13 f14 f15 f16 f17 = some o) (sz : Nat) : zMi l yX5_read wsX5_read ({ frames := 6, cells := 0, slots := 0, locals := 142 }) (dC, dI) vwCl [.ref h0, .ref h1, .int p2, .ref h3] [zV5 h0 r0_0 v0_1 v0_2 v0_3, zV9 h3 v1_0 r1_1 r1_2 r1_3 r1_4 v1_5 r1_6 r1_7 r1_8, zV4 r1_6 v2_0 v2_1 r2_2 r2_3 r2_4 r2_5 r2_6 r2_7 r2_8 r2_9, zV10 r0_0 r3_0 r3_1 v3_2 v3_3 v3_4 v3_5 v3_6 v3_7, zVi h1 k4 1200 f4, zVi r3_0 k5 13 f5, zVi r1_1 k6 4 f6, zVi r2_2 k7 14 f7, zVi r1_2 k8 4 f8, zVi r1_3 k9 4 f9, zVi r1_4 k10 4 f10, zVi r2_5 k11 14 f11, zVi r2_8 k12 28 f12, zVi r2_9 k13 28 f13, zVi r2_3 k14 14 f14, zVi r2_4 k15 14 f15, zVi r2_7 k16 14 f16, zVi r2_6 k17 14 f17] [(k4, .byte), (k5, .int), (k6, .int), (k7, .int), (k8, .int), (k9, .int), (k10, .int), (k11, .int), (k12, .int), (k13, .int), (k14, .int), (k15, .int), (k16, .int), (k17, .int)] (fun r _ => r = o.1 ∧ narrow .boolean (.int o.1) = .int o.1) [zV5 h0 r0_0 o.2.1 o.2.2.1 o.2.2.2.1, zV9 h3 o.2.2.2.2.1 r1_1 r1_2 r1_3 r1_4 o.2.2.2.2.2.1 r1_6 r1_7 r1_8, zV4 r1_6 o.2.2.2.2.2.2.1 o.2.2.2.2.2.2.2.1 r2_2 r2_3 r2_4 r2_5 r2_6 r2_7 r2_8 r2_9, zV10 r0_0 r3_0 h1 o.2.2.2.2.2.2.2.2.1 o.2.2.2.2.2.2.2.2.2.1 o.2.2.2.2.2.2.2.2.2.2.1 o.2.2.2.2.2.2.2.2.2.2.2.1 o.2.2.2.2.2.2.2.2.2.2.2.2.1 o.2.2.2.2.2.2.2.2.2.2.2.2.2.1, zVi h1 k4 1200 f4, zVi r3_0 k5 13 f5, zVi r1_1 k6 4 o.2.2.2.2.2.2.2.2.2.2.2.2.2.2.1, zVi r2_2 k7 14 o.2.2.2.2.2.2.2.2.2.2.2.2.2.2.2.1, zVi r1_2 k8 4 o.2.2.2.2.2.2.2.2.2.2.2.2.2.2.2.2.1, zVi r1_3 k9 4 o.2.2.2.2.2.2.2.2.2.2.2.2.2.2.2.2.2.1, zVi r1_4 k10 4 o.2.2.2.2.2.2.2.2.2.2.2.2.2.2.2.2.2.2.1, zVi r2_5 k11 14 o.2.2.2.2.2.2.2.2.2.2.2.2.2.2.2.2.2.2.2.1, zVi r2_8 k12 28 o.2.2.2.2.2.2.2.2.2.2.2.2.2.2.2.2.2.2.2.2.1, zVi r2_9 k13 28 o.2.2.2.2.2.2.2.2.2.2.2.2.2.2.2.2.2.2.2.2.2.1, zVi r2_3 k14 14 o.2.2.2.2.2.2.2.2.2.2.2.2.2.2.2.2.2.2.2.2.2.2.1, zVi r2_4 k15 14 o.2.2.2.2.2.2.2.2.2.2.2.2.2.2.2.2.2.2.2.2.2.2.2.1, zVi r2_7 k16 14 o.2.2.2.2.2.2.2.2.2.2.2.2.2.2.2.2.2.2.2.2.2.2.2.2.1, zVi r2_6 k17 14 o.2.2.2.2.2.2.2.2.2.2.2.2.2.2.2.2.2.2.2.2.2.2.2.2.2] [(k4, .byte), (k5, .int), (k6, .int), (k7, .int), (k8, .int), (k9, .int), (k10, .int), (k11, .int), (k12, .int), (k13, .int), (k14, .int), (k15, .int), (k16, .int), (k17, .int)] sz := by
  refine zgoi (cc := cX5_read) (maxL := 5) (ret := (some .boolean)) (C0 := RX5) (lv0 := [(0, .ref h0), (1, .ref h1), (2, .int p2), (3, .ref h3)]) zpl_X5 rfl rfl rfl (Nat.le_of_ble_eq_true rfl) ?_
  intro p e s m below meth c A ls Q hx hb hr hts hown hlocks hml hP hK hD hA hS hl hQ
  unfold fn_X5_read at hfn
  refine lv_aload_n hx hb dX5_read_0 rfl (lv_at hl 0 rfl) ?_
  refine lv_iconst (v := 0) hx hb dX5_read_1 zci_0 ?_
  refine va_put (D := (dC, dI)) (ci := 5) (v := .int 0) (ty := .int) (C := RX5) (T := TX5) (N := 4) hx hb hts zn_X5_read_X5 tyX5 tyX5_ok nmX5 hown hK hP hD hS 0 rfl rfl 2 (of_decide_eq_true rfl) (hts (.fieldLink RX5 22 "ShortEnough$Parser" "faultKind" "I") zw_X5_read_374) (fun _ h9 => h9) rfl (tyX5_ok 2 (of_decide_eq_true rfl)) rfl rfl (Nat.le_of_ble_eq_true rfl) dX5_read_2 (fun H locs hP hD hS => ?_)
  have hP : va_P (dC, dI) vwCl [zV5 h0 r0_0 v0_1 0 v0_3, zV9 h3 v1_0 r1_1 r1_2 r1_3 r1_4 v1_5 r1_6 r1_7 r1_8, zV4 r1_6 v2_0 v2_1 r2_2 r2_3 r2_4 r2_5 r2_6 r2_7 r2_8 r2_9, zV10 r0_0 r3_0 r3_1 v3_2 v3_3 v3_4 v3_5 v3_6 v3_7, zVi h1 k4 1200 f4, zVi r3_0 k5 13 f5, zVi r1_1 k6 4 f6, zVi r2_2 k7 14 f7, zVi r1_2 k8 4 f8, zVi r1_3 k9 4 f9, zVi r1_4 k10 4 f10, zVi r2_5 k11 14 f11, zVi r2_8 k12 28 f12, zVi r2_9 k13 28 f13, zVi r2_3 k14 14 f14, zVi r2_4 k15 14 f15, zVi r2_7 k16 14 f16, zVi r2_6 k17 14 f17] H := hP
  have hD := zDW hD hP rfl
  refine lv_aload_n hx hb dX5_read_5 rfl (lv_at hl 0 rfl) ?_
  refine lv_iconst (v := (-1)) hx hb dX5_read_6 zci_m1 ?_
  refine va_put (D := (dC, dI)) (ci := 5) (v := .int (-1)) (ty := .int) (C := RX5) (T := TX5) (N := 4) hx hb hts zn_X5_read_X5 tyX5 tyX5_ok nmX5 hown hK hP hD hS 0 rfl rfl 3 (of_decide_eq_true rfl) (hts (.fieldLink RX5 18 "ShortEnough$Parser" "faultPlace" "I") zw_X5_read_375) (fun _ h9 => h9) rfl (tyX5_ok 3 (of_decide_eq_true rfl)) rfl rfl (Nat.le_of_ble_eq_true rfl) dX5_read_7 (fun H locs hP hD hS => ?_)
  have hP : va_P (dC, dI) vwCl [zV5 h0 r0_0 v0_1 0 (-1), zV9 h3 v1_0 r1_1 r1_2 r1_3 r1_4 v1_5 r1_6 r1_7 r1_8, zV4 r1_6 v2_0 v2_1 r2_2 r2_3 r2_4 r2_5 r2_6 r2_7 r2_8 r2_9, zV10 r0_0 r3_0 r3_1 v3_2 v3_3 v3_4 v3_5 v3_6 v3_7, zVi h1 k4 1200 f4, zVi r3_0 k5 13 f5, zVi r1_1 k6 4 f6, zVi r2_2 k7 14 f7, zVi r1_2 k8 4 f8, zVi r1_3 k9 4 f9, zVi r1_4 k10 4 f10, zVi r2_5 k11 14 f11, zVi r2_8 k12 28 f12, zVi r2_9 k13 28 f13, zVi r2_3 k14 14 f14, zVi r2_4 k15 14 f15, zVi r2_7 k16 14 f16, zVi r2_6 k17 14 f17] H := hP
  have hD := zDW hD hP rfl
  refine lv_aload_n hx hb dX5_read_10 rfl (lv_at hl 3 rfl) ?_
  obtain ⟨o_1, hqo_1, hfn⟩ := zb_s hfn
  refine zcVv (ci := 9) (rest := []) (pc' := 14) (ws' := [zV5 h0 r0_0 v0_1 0 (-1), zV9 h3 o_1.1 r1_1 r1_2 r1_3 r1_4 o_1.2.1 r1_6 r1_7 r1_8, zV4 r1_6 o_1.2.2.1 o_1.2.2.2 r2_2 r2_3 r2_4 r2_5 r2_6 r2_7 r2_8 r2_9, zV10 r0_0 r3_0 r3_1 v3_2 v3_3 v3_4 v3_5 v3_6 v3_7, zVi h1 k4 1200 f4, zVi r3_0 k5 13 f5, zVi r1_1 k6 4 f6, zVi r2_2 k7 14 f7, zVi r1_2 k8 4 f8, zVi r1_3 k9 4 f9, zVi r1_4 k10 4 f10, zVi r2_5 k11 14 f11, zVi r2_8 k12 28 f12, zVi r2_9 k13 28 f13, zVi r2_3 k14 14 f14, zVi r2_4 k15 14 f15, zVi r2_7 k16 14 f16, zVi r2_6 k17 14 f17]) hP hK hD hS hA ⟨hx, hb, hml, hown, hts⟩ (zf_X9_clear l dC dI h3 v1_0 r1_1 r1_2 r1_3 r1_4 v1_5 r1_6 r1_7 r1_8 v2_0 v2_1 r2_2 r2_3 r2_4 r2_5 r2_6 r2_7 r2_8 r2_9 o_1 hqo_1 H.size) (cwV 0 hts gX5_read_X9_clear rfl rfl rfl zhd_X9_clear ⟨Nat.le_of_ble_eq_true rfl, Nat.le_of_ble_eq_true rfl⟩) [1, 2] rfl (of_decide_eq_true rfl) [] rfl rfl rfl rfl hl.1 rfl (Nat.le_of_ble_eq_true rfl) dX5_read_11 ⟨Nat.le_of_ble_eq_true rfl, Nat.le_of_ble_eq_true rfl⟩ [none, some 0, some 1] (of_decide_eq_true rfl) (of_decide_eq_true rfl) rfl rfl rfl (fun H locs hP hD hS => ?_)
  refine lv_aload_n hx hb dX5_read_14 rfl (lv_at hl 0 rfl) ?_
  refine va_get (D := (dC, dI)) (ci := 5) (v := .ref r0_0) (C := RX5) (T := TX5) (N := 4) hx hb hts zn_X5_read_X5 hown hK hP 0 rfl rfl 0 (of_decide_eq_true rfl) (hts (.fieldLink RX5 12 "ShortEnough$Parser" "words" "LShortEnough$Words;") zw_X5_read_383) (fun _ h9 => h9) rfl dX5_read_15 ?_
  refine lv_aload_n hx hb dX5_read_18 rfl (lv_at hl 1 rfl) ?_
  refine lv_iload_n hx hb dX5_read_19 rfl (lv_at hl 2 rfl) ?_
  obtain ⟨o_5, hqo_5, hfn⟩ := zb_s hfn
  refine zcVv (ci := 10) (rest := []) (pc' := 23) (ws' := [zV5 h0 r0_0 v0_1 0 (-1), zV9 h3 o_1.1 r1_1 r1_2 r1_3 r1_4 o_1.2.1 r1_6 r1_7 r1_8, zV4 r1_6 o_1.2.2.1 o_1.2.2.2 r2_2 r2_3 r2_4 r2_5 r2_6 r2_7 r2_8 r2_9, zV10 r0_0 r3_0 h1 o_5.1 o_5.2.1 o_5.2.2.1 o_5.2.2.2.1 o_5.2.2.2.2.1 o_5.2.2.2.2.2, zVi h1 k4 1200 f4, zVi r3_0 k5 13 f5, zVi r1_1 k6 4 f6, zVi r2_2 k7 14 f7, zVi r1_2 k8 4 f8, zVi r1_3 k9 4 f9, zVi r1_4 k10 4 f10, zVi r2_5 k11 14 f11, zVi r2_8 k12 28 f12, zVi r2_9 k13 28 f13, zVi r2_3 k14 14 f14, zVi r2_4 k15 14 f15, zVi r2_7 k16 14 f16, zVi r2_6 k17 14 f17]) hP hK hD hS hA ⟨hx, hb, hml, hown, hts⟩ (zf_X10_open l dC dI r0_0 h1 p2 r3_0 r3_1 v3_2 v3_3 v3_4 v3_5 v3_6 v3_7 k4 f4 k5 f5 o_5 hqo_5 H.size) (cwV 2 hts gX5_read_X10_open rfl rfl rfl zhd_X10_open ⟨Nat.le_of_ble_eq_true rfl, Nat.le_of_ble_eq_true rfl⟩) [3, 4, 5] rfl (of_decide_eq_true rfl) [0, 1] rfl rfl rfl rfl hl.1 rfl (Nat.le_of_ble_eq_true rfl) dX5_read_20 ⟨Nat.le_of_ble_eq_true rfl, Nat.le_of_ble_eq_true rfl⟩ [none, none, none, some 0, some 1, some 2] (of_decide_eq_true rfl) (of_decide_eq_true rfl) rfl rfl rfl (fun H locs hP hD hS => ?_)
  refine lv_iconst (v := 0) hx hb dX5_read_23 zci_0 ?_
  refine lv_istore (lv' := [(4, .int 0), (0, .ref h0), (1, .ref h1), (2, .int p2), (3, .ref h3)]) hx hb dX5_read_24 hl (of_decide_eq_true rfl) rfl (fun ls hl => ?_)
  obtain ⟨bd_9, ebd_9, hfn⟩ := zl_g hfn
  have lp_9 : ∀ (n : Nat) (s_9 : Int32 × Int32 × Int32 × Int32 × Int32 × Int32 × Int32 × Int32 × Int32 × Int32 × Int32 × Int32 × Int32 × (Nat → Int32) × (Nat → Int32) × (Nat → Int32) × (Nat → Int32) × (Nat → Int32) × (Nat → Int32) × (Nat → Int32) × (Nat → Int32) × (Nat → Int32) × (Nat → Int32) × (Nat → Int32) × (Nat → Int32)) (H : Heap) (locs : List Loc) (ls : Array Slot), zl bd_9 n s_9 = some o → va_P (dC, dI) vwCl [zV5 h0 r0_0 s_9.2.1 s_9.2.2.1 s_9.2.2.2.1, zV9 h3 s_9.2.2.2.2.1 r1_1 r1_2 r1_3 r1_4 s_9.2.2.2.2.2.1 r1_6 r1_7 r1_8, zV4 r1_6 s_9.2.2.2.2.2.2.2.2.2.2.2.1 s_9.2.2.2.2.2.2.2.2.2.2.2.2.1 r2_2 r2_3 r2_4 r2_5 r2_6 r2_7 r2_8 r2_9, zV10 r0_0 r3_0 h1 o_5.1 s_9.2.2.2.2.2.2.1 s_9.2.2.2.2.2.2.2.1 s_9.2.2.2.2.2.2.2.2.1 s_9.2.2.2.2.2.2.2.2.2.1 s_9.2.2.2.2.2.2.2.2.2.2.1, zVi h1 k4 1200 f4, zVi r3_0 k5 13 f5, zVi r1_1 k6 4 s_9.2.2.2.2.2.2.2.2.2.2.2.2.2.1, zVi r2_2 k7 14 s_9.2.2.2.2.2.2.2.2.2.2.2.2.2.2.2.2.2.1, zVi r1_2 k8 4 s_9.2.2.2.2.2.2.2.2.2.2.2.2.2.2.1, zVi r1_3 k9 4 s_9.2.2.2.2.2.2.2.2.2.2.2.2.2.2.2.1, zVi r1_4 k10 4 s_9.2.2.2.2.2.2.2.2.2.2.2.2.2.2.2.2.1, zVi r2_5 k11 14 s_9.2.2.2.2.2.2.2.2.2.2.2.2.2.2.2.2.2.2.2.2.1, zVi r2_8 k12 28 s_9.2.2.2.2.2.2.2.2.2.2.2.2.2.2.2.2.2.2.2.2.2.2.2.1, zVi r2_9 k13 28 s_9.2.2.2.2.2.2.2.2.2.2.2.2.2.2.2.2.2.2.2.2.2.2.2.2, zVi r2_3 k14 14 s_9.2.2.2.2.2.2.2.2.2.2.2.2.2.2.2.2.2.2.1, zVi r2_4 k15 14 s_9.2.2.2.2.2.2.2.2.2.2.2.2.2.2.2.2.2.2.2.1, zVi r2_7 k16 14 s_9.2.2.2.2.2.2.2.2.2.2.2.2.2.2.2.2.2.2.2.2.2.2.1, zVi r2_6 k17 14 s_9.2.2.2.2.2.2.2.2.2.2.2.2.2.2.2.2.2.2.2.2.2.1] H → va_D A [zV5 h0 r0_0 s_9.2.1 s_9.2.2.1 s_9.2.2.2.1, zV9 h3 s_9.2.2.2.2.1 r1_1 r1_2 r1_3 r1_4 s_9.2.2.2.2.2.1 r1_6 r1_7 r1_8, zV4 r1_6 s_9.2.2.2.2.2.2.2.2.2.2.2.1 s_9.2.2.2.2.2.2.2.2.2.2.2.2.1 r2_2 r2_3 r2_4 r2_5 r2_6 r2_7 r2_8 r2_9, zV10 r0_0 r3_0 h1 o_5.1 s_9.2.2.2.2.2.2.1 s_9.2.2.2.2.2.2.2.1 s_9.2.2.2.2.2.2.2.2.1 s_9.2.2.2.2.2.2.2.2.2.1 s_9.2.2.2.2.2.2.2.2.2.2.1, zVi h1 k4 1200 f4, zVi r3_0 k5 13 f5, zVi r1_1 k6 4 s_9.2.2.2.2.2.2.2.2.2.2.2.2.2.1, zVi r2_2 k7 14 s_9.2.2.2.2.2.2.2.2.2.2.2.2.2.2.2.2.2.1, zVi r1_2 k8 4 s_9.2.2.2.2.2.2.2.2.2.2.2.2.2.2.1, zVi r1_3 k9 4 s_9.2.2.2.2.2.2.2.2.2.2.2.2.2.2.2.1, zVi r1_4 k10 4 s_9.2.2.2.2.2.2.2.2.2.2.2.2.2.2.2.2.1, zVi r2_5 k11 14 s_9.2.2.2.2.2.2.2.2.2.2.2.2.2.2.2.2.2.2.2.2.1, zVi r2_8 k12 28 s_9.2.2.2.2.2.2.2.2.2.2.2.2.2.2.2.2.2.2.2.2.2.2.2.1, zVi r2_9 k13 28 s_9.2.2.2.2.2.2.2.2.2.2.2.2.2.2.2.2.2.2.2.2.2.2.2.2, zVi r2_3 k14 14 s_9.2.2.2.2.2.2.2.2.2.2.2.2.2.2.2.2.2.2.1, zVi r2_4 k15 14 s_9.2.2.2.2.2.2.2.2.2.2.2.2.2.2.2.2.2.2.2.1, zVi r2_7 k16 14 s_9.2.2.2.2.2.2.2.2.2.2.2.2.2.2.2.2.2.2.2.2.2.2.1, zVi r2_6 k17 14 s_9.2.2.2.2.2.2.2.2.2.2.2.2.2.2.2.2.2.2.2.2.2.1] → va_S A s.heap H locs → lv_has ls 5 [(4, .int s_9.1), (0, .ref h0), (2, .int p2), (3, .ref h3)] → W p l e (headSpec wsX5_read ({ frames := 6, cells := 0, slots := 0, locals := 142 })).room s m ([.ref h0, .ref h1, .int p2, .ref h3] : List Value).toArray below meth c H locs 0 0 Q (F0 m 26 ls []) := by
    intro n
    induction n with
    | zero => exact fun _ _ _ _ hfn => (zl_0 hfn).elim
    | succ n ih_9 =>
      intro s_9 H locs ls hfn hP hD hS hl
      have hfn := zl_s ebd_9 hfn
      refine lv_iload hx hb dX5_read_26 (lv_at hl 0 rfl) ?_
      refine lv_bipush (v := 40) hx hb dX5_read_28 zcb_40 ?_
      obtain ⟨j_10, ej_10, hfn⟩ := zj_g hfn
      have jp_10 : ∀ (s_10 : Unit) (H : Heap) (locs : List Loc) (ls : Array Slot), j_10 s_10 = some o → va_P (dC, dI) vwCl [zV5 h0 r0_0 s_9.2.1 s_9.2.2.1 s_9.2.2.2.1, zV9 h3 s_9.2.2.2.2.1 r1_1 r1_2 r1_3 r1_4 s_9.2.2.2.2.2.1 r1_6 r1_7 r1_8, zV4 r1_6 s_9.2.2.2.2.2.2.2.2.2.2.2.1 s_9.2.2.2.2.2.2.2.2.2.2.2.2.1 r2_2 r2_3 r2_4 r2_5 r2_6 r2_7 r2_8 r2_9, zV10 r0_0 r3_0 h1 o_5.1 s_9.2.2.2.2.2.2.1 s_9.2.2.2.2.2.2.2.1 s_9.2.2.2.2.2.2.2.2.1 s_9.2.2.2.2.2.2.2.2.2.1 s_9.2.2.2.2.2.2.2.2.2.2.1, zVi h1 k4 1200 f4, zVi r3_0 k5 13 f5, zVi r1_1 k6 4 s_9.2.2.2.2.2.2.2.2.2.2.2.2.2.1, zVi r2_2 k7 14 s_9.2.2.2.2.2.2.2.2.2.2.2.2.2.2.2.2.2.1, zVi r1_2 k8 4 s_9.2.2.2.2.2.2.2.2.2.2.2.2.2.2.1, zVi r1_3 k9 4 s_9.2.2.2.2.2.2.2.2.2.2.2.2.2.2.2.1, zVi r1_4 k10 4 s_9.2.2.2.2.2.2.2.2.2.2.2.2.2.2.2.2.1, zVi r2_5 k11 14 s_9.2.2.2.2.2.2.2.2.2.2.2.2.2.2.2.2.2.2.2.2.1, zVi r2_8 k12 28 s_9.2.2.2.2.2.2.2.2.2.2.2.2.2.2.2.2.2.2.2.2.2.2.2.1, zVi r2_9 k13 28 s_9.2.2.2.2.2.2.2.2.2.2.2.2.2.2.2.2.2.2.2.2.2.2.2.2, zVi r2_3 k14 14 s_9.2.2.2.2.2.2.2.2.2.2.2.2.2.2.2.2.2.2.1, zVi r2_4 k15 14 s_9.2.2.2.2.2.2.2.2.2.2.2.2.2.2.2.2.2.2.2.1, zVi r2_7 k16 14 s_9.2.2.2.2.2.2.2.2.2.2.2.2.2.2.2.2.2.2.2.2.2.2.1, zVi r2_6 k17 14 s_9.2.2.2.2.2.2.2.2.2.2.2.2.2.2.2.2.2.2.2.2.2.1] H → va_D A [zV5 h0 r0_0 s_9.2.1 s_9.2.2.1 s_9.2.2.2.1, zV9 h3 s_9.2.2.2.2.1 r1_1 r1_2 r1_3 r1_4 s_9.2.2.2.2.2.1 r1_6 r1_7 r1_8, zV4 r1_6 s_9.2.2.2.2.2.2.2.2.2.2.2.1 s_9.2.2.2.2.2.2.2.2.2.2.2.2.1 r2_2 r2_3 r2_4 r2_5 r2_6 r2_7 r2_8 r2_9, zV10 r0_0 r3_0 h1 o_5.1 s_9.2.2.2.2.2.2.1 s_9.2.2.2.2.2.2.2.1 s_9.2.2.2.2.2.2.2.2.1 s_9.2.2.2.2.2.2.2.2.2.1 s_9.2.2.2.2.2.2.2.2.2.2.1, zVi h1 k4 1200 f4, zVi r3_0 k5 13 f5, zVi r1_1 k6 4 s_9.2.2.2.2.2.2.2.2.2.2.2.2.2.1, zVi r2_2 k7 14 s_9.2.2.2.2.2.2.2.2.2.2.2.2.2.2.2.2.2.1, zVi r1_2 k8 4 s_9.2.2.2.2.2.2.2.2.2.2.2.2.2.2.1, zVi r1_3 k9 4 s_9.2.2.2.2.2.2.2.2.2.2.2.2.2.2.2.1, zVi r1_4 k10 4 s_9.2.2.2.2.2.2.2.2.2.2.2.2.2.2.2.2.1, zVi r2_5 k11 14 s_9.2.2.2.2.2.2.2.2.2.2.2.2.2.2.2.2.2.2.2.2.1, zVi r2_8 k12 28 s_9.2.2.2.2.2.2.2.2.2.2.2.2.2.2.2.2.2.2.2.2.2.2.2.1, zVi r2_9 k13 28 s_9.2.2.2.2.2.2.2.2.2.2.2.2.2.2.2.2.2.2.2.2.2.2.2.2, zVi r2_3 k14 14 s_9.2.2.2.2.2.2.2.2.2.2.2.2.2.2.2.2.2.2.1, zVi r2_4 k15 14 s_9.2.2.2.2.2.2.2.2.2.2.2.2.2.2.2.2.2.2.2.1, zVi r2_7 k16 14 s_9.2.2.2.2.2.2.2.2.2.2.2.2.2.2.2.2.2.2.2.2.2.2.1, zVi r2_6 k17 14 s_9.2.2.2.2.2.2.2.2.2.2.2.2.2.2.2.2.2.2.2.2.2.1] → va_S A s.heap H locs → lv_has ls 5 [(0, .ref h0), (2, .int p2), (3, .ref h3)] → W p l e (headSpec wsX5_read ({ frames := 6, cells := 0, slots := 0, locals := 142 })).room s m ([.ref h0, .ref h1, .int p2, .ref h3] : List Value).toArray below meth c H locs 0 0 Q (F0 m 61 ls []) := by
        intro s_10 H locs ls hfn hP hD hS hl
        have hfn := zj_s ej_10 hfn
        refine lv_aload_n hx hb dX5_read_61 rfl (lv_at hl 2 rfl) ?_
        refine va_get (D := (dC, dI)) (ci := 9) (v := .int s_9.2.2.2.2.1) (C := RX9) (T := TX9) (N := 9) hx hb hts zn_X5_read_X9 hown hK hP 1 rfl rfl 0 (of_decide_eq_true rfl) (hts (.fieldLink RX5 41 "ShortEnough$Task" "formats" "I") zw_X5_read_527) (fun _ h9 => h9) rfl dX5_read_62 ?_
        obtain ⟨j_11, ej_11, hfn⟩ := zj_g hfn
        have jp_11 : ∀ (s_11 : Int32) (H : Heap) (locs : List Loc) (ls : Array Slot), j_11 s_11 = some o → va_P (dC, dI) vwCl [zV5 h0 r0_0 s_9.2.1 s_9.2.2.1 s_9.2.2.2.1, zV9 h3 s_9.2.2.2.2.1 r1_1 r1_2 r1_3 r1_4 s_9.2.2.2.2.2.1 r1_6 r1_7 r1_8, zV4 r1_6 s_9.2.2.2.2.2.2.2.2.2.2.2.1 s_9.2.2.2.2.2.2.2.2.2.2.2.2.1 r2_2 r2_3 r2_4 r2_5 r2_6 r2_7 r2_8 r2_9, zV10 r0_0 r3_0 h1 o_5.1 s_9.2.2.2.2.2.2.1 s_9.2.2.2.2.2.2.2.1 s_9.2.2.2.2.2.2.2.2.1 s_9.2.2.2.2.2.2.2.2.2.1 s_9.2.2.2.2.2.2.2.2.2.2.1, zVi h1 k4 1200 f4, zVi r3_0 k5 13 f5, zVi r1_1 k6 4 s_9.2.2.2.2.2.2.2.2.2.2.2.2.2.1, zVi r2_2 k7 14 s_9.2.2.2.2.2.2.2.2.2.2.2.2.2.2.2.2.2.1, zVi r1_2 k8 4 s_9.2.2.2.2.2.2.2.2.2.2.2.2.2.2.1, zVi r1_3 k9 4 s_9.2.2.2.2.2.2.2.2.2.2.2.2.2.2.2.1, zVi r1_4 k10 4 s_9.2.2.2.2.2.2.2.2.2.2.2.2.2.2.2.2.1, zVi r2_5 k11 14 s_9.2.2.2.2.2.2.2.2.2.2.2.2.2.2.2.2.2.2.2.2.1, zVi r2_8 k12 28 s_9.2.2.2.2.2.2.2.2.2.2.2.2.2.2.2.2.2.2.2.2.2.2.2.1, zVi r2_9 k13 28 s_9.2.2.2.2.2.2.2.2.2.2.2.2.2.2.2.2.2.2.2.2.2.2.2.2, zVi r2_3 k14 14 s_9.2.2.2.2.2.2.2.2.2.2.2.2.2.2.2.2.2.2.1, zVi r2_4 k15 14 s_9.2.2.2.2.2.2.2.2.2.2.2.2.2.2.2.2.2.2.2.1, zVi r2_7 k16 14 s_9.2.2.2.2.2.2.2.2.2.2.2.2.2.2.2.2.2.2.2.2.2.2.1, zVi r2_6 k17 14 s_9.2.2.2.2.2.2.2.2.2.2.2.2.2.2.2.2.2.2.2.2.2.1] H → va_D A [zV5 h0 r0_0 s_9.2.1 s_9.2.2.1 s_9.2.2.2.1, zV9 h3 s_9.2.2.2.2.1 r1_1 r1_2 r1_3 r1_4 s_9.2.2.2.2.2.1 r1_6 r1_7 r1_8, zV4 r1_6 s_9.2.2.2.2.2.2.2.2.2.2.2.1 s_9.2.2.2.2.2.2.2.2.2.2.2.2.1 r2_2 r2_3 r2_4 r2_5 r2_6 r2_7 r2_8 r2_9, zV10 r0_0 r3_0 h1 o_5.1 s_9.2.2.2.2.2.2.1 s_9.2.2.2.2.2.2.2.1 s_9.2.2.2.2.2.2.2.2.1 s_9.2.2.2.2.2.2.2.2.2.1 s_9.2.2.2.2.2.2.2.2.2.2.1, zVi h1 k4 1200 f4, zVi r3_0 k5 13 f5, zVi r1_1 k6 4 s_9.2.2.2.2.2.2.2.2.2.2.2.2.2.1, zVi r2_2 k7 14 s_9.2.2.2.2.2.2.2.2.2.2.2.2.2.2.2.2.2.1, zVi r1_2 k8 4 s_9.2.2.2.2.2.2.2.2.2.2.2.2.2.2.1, zVi r1_3 k9 4 s_9.2.2.2.2.2.2.2.2.2.2.2.2.2.2.2.1, zVi r1_4 k10 4 s_9.2.2.2.2.2.2.2.2.2.2.2.2.2.2.2.2.1, zVi r2_5 k11 14 s_9.2.2.2.2.2.2.2.2.2.2.2.2.2.2.2.2.2.2.2.2.1, zVi r2_8 k12 28 s_9.2.2.2.2.2.2.2.2.2.2.2.2.2.2.2.2.2.2.2.2.2.2.2.1, zVi r2_9 k13 28 s_9.2.2.2.2.2.2.2.2.2.2.2.2.2.2.2.2.2.2.2.2.2.2.2.2, zVi r2_3 k14 14 s_9.2.2.2.2.2.2.2.2.2.2.2.2.2.2.2.2.2.2.1, zVi r2_4 k15 14 s_9.2.2.2.2.2.2.2.2.2.2.2.2.2.2.2.2.2.2.2.1, zVi r2_7 k16 14 s_9.2.2.2.2.2.2.2.2.2.2.2.2.2.2.2.2.2.2.2.2.2.2.1, zVi r2_6 k17 14 s_9.2.2.2.2.2.2.2.2.2.2.2.2.2.2.2.2.2.2.2.2.2.1] → va_S A s.heap H locs → lv_has ls 5 [(0, .ref h0), (2, .int p2)] → W p l e (headSpec wsX5_read ({ frames := 6, cells := 0, slots := 0, locals := 142 })).room s m ([.ref h0, .ref h1, .int p2, .ref h3] : List Value).toArray below meth c H locs 0 0 Q (F0 m 83 ls [.int s_11]) := by
          intro s_11 H locs ls hfn hP hD hS hl
          have hfn := zj_s ej_11 hfn
          refine lv_istore (lv' := [(4, .int s_11), (0, .ref h0), (2, .int p2)]) hx hb dX5_read_83 hl (of_decide_eq_true rfl) rfl (fun ls hl => ?_)
          refine lv_iload hx hb dX5_read_85 (lv_at hl 0 rfl) ?_
          refine lv_if_ne (tgt := 99) hx hb dX5_read_87 (of_decide_eq_true rfl) (fun c_12 => ?_) (fun c_12 => ?_)
          · have hfn := (if_neg c_12).symm.trans hfn
            refine lv_iconst (v := 1) hx hb dX5_read_99 zci_1 ?_
            refine lv_goto (tgt := 104) hx hb dX5_read_100 (of_decide_eq_true rfl) ?_
            have ho := Option.some.inj hfn
            subst ho
            exact zrz hx hb hr rfl hK hP hD hS hQ ⟨rfl, zB1⟩ hlocks dX5_read_104
          have hfn := (if_pos c_12).symm.trans hfn
          refine lv_aload_n hx hb dX5_read_90 rfl (lv_at hl 1 rfl) ?_
          refine lv_iconst (v := 4) hx hb dX5_read_91 zci_4 ?_
          refine lv_iload_n hx hb dX5_read_92 rfl (lv_at hl 2 rfl) ?_
          obtain ⟨o_13, hqo_13, hfn⟩ := zb_s hfn
          refine zcVb (ci := 5) (rest := []) (pc' := 96) (ws' := [zV5 h0 r0_0 s_9.2.1 o_13.2.1 o_13.2.2, zV9 h3 s_9.2.2.2.2.1 r1_1 r1_2 r1_3 r1_4 s_9.2.2.2.2.2.1 r1_6 r1_7 r1_8, zV4 r1_6 s_9.2.2.2.2.2.2.2.2.2.2.2.1 s_9.2.2.2.2.2.2.2.2.2.2.2.2.1 r2_2 r2_3 r2_4 r2_5 r2_6 r2_7 r2_8 r2_9, zV10 r0_0 r3_0 h1 o_5.1 s_9.2.2.2.2.2.2.1 s_9.2.2.2.2.2.2.2.1 s_9.2.2.2.2.2.2.2.2.1 s_9.2.2.2.2.2.2.2.2.2.1 s_9.2.2.2.2.2.2.2.2.2.2.1, zVi h1 k4 1200 f4, zVi r3_0 k5 13 f5, zVi r1_1 k6 4 s_9.2.2.2.2.2.2.2.2.2.2.2.2.2.1, zVi r2_2 k7 14 s_9.2.2.2.2.2.2.2.2.2.2.2.2.2.2.2.2.2.1, zVi r1_2 k8 4 s_9.2.2.2.2.2.2.2.2.2.2.2.2.2.2.1, zVi r1_3 k9 4 s_9.2.2.2.2.2.2.2.2.2.2.2.2.2.2.2.1, zVi r1_4 k10 4 s_9.2.2.2.2.2.2.2.2.2.2.2.2.2.2.2.2.1, zVi r2_5 k11 14 s_9.2.2.2.2.2.2.2.2.2.2.2.2.2.2.2.2.2.2.2.2.1, zVi r2_8 k12 28 s_9.2.2.2.2.2.2.2.2.2.2.2.2.2.2.2.2.2.2.2.2.2.2.2.1, zVi r2_9 k13 28 s_9.2.2.2.2.2.2.2.2.2.2.2.2.2.2.2.2.2.2.2.2.2.2.2.2, zVi r2_3 k14 14 s_9.2.2.2.2.2.2.2.2.2.2.2.2.2.2.2.2.2.2.1, zVi r2_4 k15 14 s_9.2.2.2.2.2.2.2.2.2.2.2.2.2.2.2.2.2.2.2.1, zVi r2_7 k16 14 s_9.2.2.2.2.2.2.2.2.2.2.2.2.2.2.2.2.2.2.2.2.2.2.1, zVi r2_6 k17 14 s_9.2.2.2.2.2.2.2.2.2.2.2.2.2.2.2.2.2.2.2.2.2.1]) hP hK hD hS hA ⟨hx, hb, hml, hown, hts⟩ (zf_X5_stopAt l dC dI h0 4 p2 r0_0 s_9.2.1 s_9.2.2.1 s_9.2.2.2.1 o_13 hqo_13 H.size) (cwV 2 hts gX5_read_X5_stopAt rfl rfl rfl zhd_X5_stopAt ⟨Nat.le_of_ble_eq_true rfl, Nat.le_of_ble_eq_true rfl⟩) [0] rfl (of_decide_eq_true rfl) [] rfl rfl rfl rfl hl.1 rfl (Nat.le_of_ble_eq_true rfl) dX5_read_93 ⟨Nat.le_of_ble_eq_true rfl, Nat.le_of_ble_eq_true rfl⟩ [some 0] (of_decide_eq_true rfl) (of_decide_eq_true rfl) rfl rfl rfl (fun H locs hw_16n hP hD hS => ?_)
          refine lv_if_eq (tgt := 103) hx hb dX5_read_96 (of_decide_eq_true rfl) (fun c_17 => ?_) (fun c_17 => ?_)
          · have hfn := (if_pos c_17).symm.trans hfn
            refine lv_iconst (v := 0) hx hb dX5_read_103 zci_0 ?_
            have ho := Option.some.inj hfn
            subst ho
            exact zrz hx hb hr rfl hK hP hD hS hQ ⟨rfl, zB0⟩ hlocks dX5_read_104
          have hfn := (if_neg c_17).symm.trans hfn
          refine lv_iconst (v := 1) hx hb dX5_read_99 zci_1 ?_
          refine lv_goto (tgt := 104) hx hb dX5_read_100 (of_decide_eq_true rfl) ?_
          have ho := Option.some.inj hfn
          subst ho
          exact zrz hx hb hr rfl hK hP hD hS hQ ⟨rfl, zB1⟩ hlocks dX5_read_104
        obtain ⟨j_18, ej_18, hfn⟩ := zj_g hfn
        have jp_18 : ∀ (s_18 : Unit) (H : Heap) (locs : List Loc) (ls : Array Slot), j_18 s_18 = some o → va_P (dC, dI) vwCl [zV5 h0 r0_0 s_9.2.1 s_9.2.2.1 s_9.2.2.2.1, zV9 h3 s_9.2.2.2.2.1 r1_1 r1_2 r1_3 r1_4 s_9.2.2.2.2.2.1 r1_6 r1_7 r1_8, zV4 r1_6 s_9.2.2.2.2.2.2.2.2.2.2.2.1 s_9.2.2.2.2.2.2.2.2.2.2.2.2.1 r2_2 r2_3 r2_4 r2_5 r2_6 r2_7 r2_8 r2_9, zV10 r0_0 r3_0 h1 o_5.1 s_9.2.2.2.2.2.2.1 s_9.2.2.2.2.2.2.2.1 s_9.2.2.2.2.2.2.2.2.1 s_9.2.2.2.2.2.2.2.2.2.1 s_9.2.2.2.2.2.2.2.2.2.2.1, zVi h1 k4 1200 f4, zVi r3_0 k5 13 f5, zVi r1_1 k6 4 s_9.2.2.2.2.2.2.2.2.2.2.2.2.2.1, zVi r2_2 k7 14 s_9.2.2.2.2.2.2.2.2.2.2.2.2.2.2.2.2.2.1, zVi r1_2 k8 4 s_9.2.2.2.2.2.2.2.2.2.2.2.2.2.2.1, zVi r1_3 k9 4 s_9.2.2.2.2.2.2.2.2.2.2.2.2.2.2.2.1, zVi r1_4 k10 4 s_9.2.2.2.2.2.2.2.2.2.2.2.2.2.2.2.2.1, zVi r2_5 k11 14 s_9.2.2.2.2.2.2.2.2.2.2.2.2.2.2.2.2.2.2.2.2.1, zVi r2_8 k12 28 s_9.2.2.2.2.2.2.2.2.2.2.2.2.2.2.2.2.2.2.2.2.2.2.2.1, zVi r2_9 k13 28 s_9.2.2.2.2.2.2.2.2.2.2.2.2.2.2.2.2.2.2.2.2.2.2.2.2, zVi r2_3 k14 14 s_9.2.2.2.2.2.2.2.2.2.2.2.2.2.2.2.2.2.2.1, zVi r2_4 k15 14 s_9.2.2.2.2.2.2.2.2.2.2.2.2.2.2.2.2.2.2.2.1, zVi r2_7 k16 14 s_9.2.2.2.2.2.2.2.2.2.2.2.2.2.2.2.2.2.2.2.2.2.2.1, zVi r2_6 k17 14 s_9.2.2.2.2.2.2.2.2.2.2.2.2.2.2.2.2.2.2.2.2.2.1] H → va_D A [zV5 h0 r0_0 s_9.2.1 s_9.2.2.1 s_9.2.2.2.1, zV9 h3 s_9.2.2.2.2.1 r1_1 r1_2 r1_3 r1_4 s_9.2.2.2.2.2.1 r1_6 r1_7 r1_8, zV4 r1_6 s_9.2.2.2.2.2.2.2.2.2.2.2.1 s_9.2.2.2.2.2.2.2.2.2.2.2.2.1 r2_2 r2_3 r2_4 r2_5 r2_6 r2_7 r2_8 r2_9, zV10 r0_0 r3_0 h1 o_5.1 s_9.2.2.2.2.2.2.1 s_9.2.2.2.2.2.2.2.1 s_9.2.2.2.2.2.2.2.2.1 s_9.2.2.2.2.2.2.2.2.2.1 s_9.2.2.2.2.2.2.2.2.2.2.1, zVi h1 k4 1200 f4, zVi r3_0 k5 13 f5, zVi r1_1 k6 4 s_9.2.2.2.2.2.2.2.2.2.2.2.2.2.1, zVi r2_2 k7 14 s_9.2.2.2.2.2.2.2.2.2.2.2.2.2.2.2.2.2.1, zVi r1_2 k8 4 s_9.2.2.2.2.2.2.2.2.2.2.2.2.2.2.1, zVi r1_3 k9 4 s_9.2.2.2.2.2.2.2.2.2.2.2.2.2.2.2.1, zVi r1_4 k10 4 s_9.2.2.2.2.2.2.2.2.2.2.2.2.2.2.2.2.1, zVi r2_5 k11 14 s_9.2.2.2.2.2.2.2.2.2.2.2.2.2.2.2.2.2.2.2.2.1, zVi r2_8 k12 28 s_9.2.2.2.2.2.2.2.2.2.2.2.2.2.2.2.2.2.2.2.2.2.2.2.1, zVi r2_9 k13 28 s_9.2.2.2.2.2.2.2.2.2.2.2.2.2.2.2.2.2.2.2.2.2.2.2.2, zVi r2_3 k14 14 s_9.2.2.2.2.2.2.2.2.2.2.2.2.2.2.2.2.2.2.1, zVi r2_4 k15 14 s_9.2.2.2.2.2.2.2.2.2.2.2.2.2.2.2.2.2.2.2.1, zVi r2_7 k16 14 s_9.2.2.2.2.2.2.2.2.2.2.2.2.2.2.2.2.2.2.2.2.2.2.1, zVi r2_6 k17 14 s_9.2.2.2.2.2.2.2.2.2.2.2.2.2.2.2.2.2.2.2.2.2.1] → va_S A s.heap H locs → lv_has ls 5 [(0, .ref h0), (2, .int p2)] → W p l e (headSpec wsX5_read ({ frames := 6, cells := 0, slots := 0, locals := 142 })).room s m ([.ref h0, .ref h1, .int p2, .ref h3] : List Value).toArray below meth c H locs 0 0 Q (F0 m 82 ls []) := by
          intro s_18 H locs ls hfn hP hD hS hl
          have hfn := zj_s ej_18 hfn
          refine lv_iconst (v := 0) hx hb dX5_read_82 zci_0 ?_
          exact jp_11 0 H locs ls hfn hP hD hS (lv_sub hl [0, 1] rfl)
        refine lv_if_le (tgt := 82) hx hb dX5_read_65 (of_decide_eq_true rfl) (fun c_19 => ?_) (fun c_19 => ?_)
        · have hfn := (if_pos c_19).symm.trans hfn
          exact jp_18 () H locs ls hfn hP hD hS (lv_sub hl [0, 1] rfl)
        have hfn := (if_neg c_19).symm.trans hfn
        refine lv_aload_n hx hb dX5_read_68 rfl (lv_at hl 2 rfl) ?_
        refine va_get (D := (dC, dI)) (ci := 9) (v := .ref r1_6) (C := RX9) (T := TX9) (N := 9) hx hb hts zn_X5_read_X9 hown hK hP 1 rfl rfl 6 (of_decide_eq_true rfl) (hts (.fieldLink RX5 44 "ShortEnough$Task" "numbers" "LShortEnough$Numbers;") zw_X5_read_528) (fun _ h9 => h9) rfl dX5_read_69 ?_
        refine va_get (D := (dC, dI)) (ci := 4) (v := .int s_9.2.2.2.2.2.2.2.2.2.2.2.1) (C := RX4) (T := TX4) (N := 10) hx hb hts zn_X5_read_X4 hown hK hP 2 rfl rfl 0 (of_decide_eq_true rfl) (hts (.fieldLink RX5 48 "ShortEnough$Numbers" "count" "I") zw_X5_read_530) (fun _ h9 => h9) rfl dX5_read_72 ?_
        refine lv_if_le (tgt := 82) hx hb dX5_read_75 (of_decide_eq_true rfl) (fun c_20 => ?_) (fun c_20 => ?_)
        · have hfn := (if_pos c_20).symm.trans hfn
          exact jp_18 () H locs ls hfn hP hD hS (lv_sub hl [0, 1] rfl)
        have hfn := (if_neg c_20).symm.trans hfn
        refine lv_iconst (v := 1) hx hb dX5_read_78 zci_1 ?_
        refine lv_goto (tgt := 83) hx hb dX5_read_79 (of_decide_eq_true rfl) ?_
        exact jp_11 1 H locs ls hfn hP hD hS (lv_sub hl [0, 1] rfl)
      refine lv_icmp_gt (tgt := 61) hx hb dX5_read_30 (of_decide_eq_true rfl) (fun c_21 => ?_) (fun c_21 => ?_)
      · have hfn := (if_pos c_21).symm.trans hfn
        exact jp_10 () H locs ls hfn hP hD hS (lv_sub hl [1, 2, 3] rfl)
      have hfn := (if_neg c_21).symm.trans hfn
      refine lv_aload_n hx hb dX5_read_33 rfl (lv_at hl 1 rfl) ?_
      refine va_get (D := (dC, dI)) (ci := 5) (v := .ref r0_0) (C := RX5) (T := TX5) (N := 4) hx hb hts zn_X5_read_X5 hown hK hP 0 rfl rfl 0 (of_decide_eq_true rfl) (hts (.fieldLink RX5 12 "ShortEnough$Parser" "words" "LShortEnough$Words;") zw_X5_read_383) (fun _ h9 => h9) rfl dX5_read_34 ?_
      refine va_get (D := (dC, dI)) (ci := 10) (v := .int s_9.2.2.2.2.2.2.2.1) (C := RX10) (T := TX10) (N := 8) hx hb hts zn_X5_read_X10 hown hK hP 3 rfl rfl 4 (of_decide_eq_true rfl) (hts (.fieldLink RX5 34 "ShortEnough$Words" "kind" "I") zw_X5_read_410) (fun _ h9 => h9) rfl dX5_read_37 ?_
      refine lv_if_eq (tgt := 61) hx hb dX5_read_40 (of_decide_eq_true rfl) (fun c_22 => ?_) (fun c_22 => ?_)
      · have hfn := (if_pos c_22).symm.trans hfn
        exact jp_10 () H locs ls hfn hP hD hS (lv_sub hl [1, 2, 3] rfl)
      have hfn := (if_neg c_22).symm.trans hfn
      refine lv_aload_n hx hb dX5_read_43 rfl (lv_at hl 1 rfl) ?_
      refine lv_aload_n hx hb dX5_read_44 rfl (lv_at hl 3 rfl) ?_
      refine lv_iload hx hb dX5_read_45 (lv_at hl 0 rfl) ?_
      obtain ⟨o_23, hqo_23, hfn⟩ := zb_s hfn
      refine zcVb (ci := 5) (rest := []) (pc' := 50) (ws' := [zV5 h0 r0_0 o_23.2.1 o_23.2.2.1 o_23.2.2.2.1, zV9 h3 o_23.2.2.2.2.2.2.2.2.2.1 r1_1 r1_2 r1_3 r1_4 o_23.2.2.2.2.2.2.2.2.2.2.1 r1_6 r1_7 r1_8, zV4 r1_6 o_23.2.2.2.2.2.2.2.2.2.2.2.1 o_23.2.2.2.2.2.2.2.2.2.2.2.2.1 r2_2 r2_3 r2_4 r2_5 r2_6 r2_7 r2_8 r2_9, zV10 r0_0 r3_0 h1 o_5.1 o_23.2.2.2.2.1 o_23.2.2.2.2.2.1 o_23.2.2.2.2.2.2.1 o_23.2.2.2.2.2.2.2.1 o_23.2.2.2.2.2.2.2.2.1, zVi h1 k4 1200 f4, zVi r3_0 k5 13 f5, zVi r1_1 k6 4 o_23.2.2.2.2.2.2.2.2.2.2.2.2.2.1, zVi r2_2 k7 14 o_23.2.2.2.2.2.2.2.2.2.2.2.2.2.2.1, zVi r1_2 k8 4 o_23.2.2.2.2.2.2.2.2.2.2.2.2.2.2.2.1, zVi r1_3 k9 4 o_23.2.2.2.2.2.2.2.2.2.2.2.2.2.2.2.2.1, zVi r1_4 k10 4 o_23.2.2.2.2.2.2.2.2.2.2.2.2.2.2.2.2.2.1, zVi r2_5 k11 14 o_23.2.2.2.2.2.2.2.2.2.2.2.2.2.2.2.2.2.2.1, zVi r2_8 k12 28 o_23.2.2.2.2.2.2.2.2.2.2.2.2.2.2.2.2.2.2.2.1, zVi r2_9 k13 28 o_23.2.2.2.2.2.2.2.2.2.2.2.2.2.2.2.2.2.2.2.2.1, zVi r2_3 k14 14 o_23.2.2.2.2.2.2.2.2.2.2.2.2.2.2.2.2.2.2.2.2.2.1, zVi r2_4 k15 14 o_23.2.2.2.2.2.2.2.2.2.2.2.2.2.2.2.2.2.2.2.2.2.2.1, zVi r2_7 k16 14 o_23.2.2.2.2.2.2.2.2.2.2.2.2.2.2.2.2.2.2.2.2.2.2.2.1, zVi r2_6 k17 14 o_23.2.2.2.2.2.2.2.2.2.2.2.2.2.2.2.2.2.2.2.2.2.2.2.2]) hP hK hD hS hA ⟨hx, hb, hml, hown, hts⟩ (zf_X5_readStatement l dC dI h0 h3 s_9.1 r0_0 s_9.2.1 s_9.2.2.1 s_9.2.2.2.1 r3_0 h1 o_5.1 s_9.2.2.2.2.2.2.1 s_9.2.2.2.2.2.2.2.1 s_9.2.2.2.2.2.2.2.2.1 s_9.2.2.2.2.2.2.2.2.2.1 s_9.2.2.2.2.2.2.2.2.2.2.1 s_9.2.2.2.2.1 r1_1 r1_2 r1_3 r1_4 s_9.2.2.2.2.2.1 r1_6 r1_7 r1_8 s_9.2.2.2.2.2.2.2.2.2.2.2.1 s_9.2.2.2.2.2.2.2.2.2.2.2.2.1 r2_2 r2_3 r2_4 r2_5 r2_6 r2_7 r2_8 r2_9 k4 f4 k5 f5 k6 s_9.2.2.2.2.2.2.2.2.2.2.2.2.2.1 k7 s_9.2.2.2.2.2.2.2.2.2.2.2.2.2.2.2.2.2.1 k8 s_9.2.2.2.2.2.2.2.2.2.2.2.2.2.2.1 k9 s_9.2.2.2.2.2.2.2.2.2.2.2.2.2.2.2.1 k10 s_9.2.2.2.2.2.2.2.2.2.2.2.2.2.2.2.2.1 k11 s_9.2.2.2.2.2.2.2.2.2.2.2.2.2.2.2.2.2.2.2.2.1 k12 s_9.2.2.2.2.2.2.2.2.2.2.2.2.2.2.2.2.2.2.2.2.2.2.2.1 k13 s_9.2.2.2.2.2.2.2.2.2.2.2.2.2.2.2.2.2.2.2.2.2.2.2.2 k14 s_9.2.2.2.2.2.2.2.2.2.2.2.2.2.2.2.2.2.2.1 k15 s_9.2.2.2.2.2.2.2.2.2.2.2.2.2.2.2.2.2.2.2.1 k16 s_9.2.2.2.2.2.2.2.2.2.2.2.2.2.2.2.2.2.2.2.2.2.2.1 k17 s_9.2.2.2.2.2.2.2.2.2.2.2.2.2.2.2.2.2.2.2.2.2.1 o_23 hqo_23 H.size) (cwV 2 hts gX5_read_X5_readStatement rfl rfl rfl zhd_X5_readStatement ⟨Nat.le_of_ble_eq_true rfl, Nat.le_of_ble_eq_true rfl⟩) [0, 3, 1, 2, 4, 5, 6, 7, 8, 9, 10, 11, 12, 13, 14, 15, 16, 17] rfl (of_decide_eq_true rfl) [0, 1, 2, 3, 4, 5, 6, 7, 8, 9, 10, 11, 12, 13] rfl rfl rfl rfl hl.1 rfl (Nat.le_of_ble_eq_true rfl) dX5_read_47 ⟨Nat.le_of_ble_eq_true rfl, Nat.le_of_ble_eq_true rfl⟩ [some 0, some 2, some 3, some 1, some 4, some 5, some 6, some 7, some 8, some 9, some 10, some 11, some 12, some 13, some 14, some 15, some 16, some 17] (of_decide_eq_true rfl) (of_decide_eq_true rfl) rfl rfl rfl (fun H locs hw_26n hP hD hS => ?_)
      refine lv_if_ne (tgt := 55) hx hb dX5_read_50 (of_decide_eq_true rfl) (fun c_27 => ?_) (fun c_27 => ?_)
      · have hfn := (if_neg c_27).symm.trans hfn
        refine lv_iinc (v := (s_9.1 + 1)) (lv' := [(4, .int (s_9.1 + 1)), (0, .ref h0), (2, .int p2), (3, .ref h3)]) hx hb dX5_read_55 hl (k := 0) rfl rfl (of_decide_eq_true rfl) rfl (fun ls hl => ?_)
        refine lv_goto (tgt := 26) hx hb dX5_read_58 (of_decide_eq_true rfl) ?_
        exact ih_9 ((s_9.1 + 1), o_23.2.1, o_23.2.2.1, o_23.2.2.2.1, o_23.2.2.2.2.2.2.2.2.2.1, o_23.2.2.2.2.2.2.2.2.2.2.1, o_23.2.2.2.2.1, o_23.2.2.2.2.2.1, o_23.2.2.2.2.2.2.1, o_23.2.2.2.2.2.2.2.1, o_23.2.2.2.2.2.2.2.2.1, o_23.2.2.2.2.2.2.2.2.2.2.2.1, o_23.2.2.2.2.2.2.2.2.2.2.2.2.1, o_23.2.2.2.2.2.2.2.2.2.2.2.2.2.1, o_23.2.2.2.2.2.2.2.2.2.2.2.2.2.2.2.1, o_23.2.2.2.2.2.2.2.2.2.2.2.2.2.2.2.2.1, o_23.2.2.2.2.2.2.2.2.2.2.2.2.2.2.2.2.2.1, o_23.2.2.2.2.2.2.2.2.2.2.2.2.2.2.1, o_23.2.2.2.2.2.2.2.2.2.2.2.2.2.2.2.2.2.2.2.2.2.1, o_23.2.2.2.2.2.2.2.2.2.2.2.2.2.2.2.2.2.2.2.2.2.2.1, o_23.2.2.2.2.2.2.2.2.2.2.2.2.2.2.2.2.2.2.1, o_23.2.2.2.2.2.2.2.2.2.2.2.2.2.2.2.2.2.2.2.2.2.2.2.2, o_23.2.2.2.2.2.2.2.2.2.2.2.2.2.2.2.2.2.2.2.2.2.2.2.1, o_23.2.2.2.2.2.2.2.2.2.2.2.2.2.2.2.2.2.2.2.1, o_23.2.2.2.2.2.2.2.2.2.2.2.2.2.2.2.2.2.2.2.2.1) H locs ls hfn hP hD hS (lv_sub hl [0, 1, 2, 3] rfl)
      have hfn := (if_pos c_27).symm.trans hfn
      refine lv_iconst (v := 0) hx hb dX5_read_53 zci_0 ?_
      have ho := Option.some.inj hfn
      subst ho
      exact zrz hx hb hr rfl hK hP hD hS hQ ⟨rfl, zB0⟩ hlocks dX5_read_54
  exact lp_9 _ (0, v0_1, 0, (-1), o_1.1, o_1.2.1, o_5.2.1, o_5.2.2.1, o_5.2.2.2.1, o_5.2.2.2.2.1, o_5.2.2.2.2.2, o_1.2.2.1, o_1.2.2.2, f6, f8, f9, f10, f7, f14, f15, f11, f17, f16, f12, f13) H locs ls hfn hP hD hS (lv_sub hl [0, 1, 3, 4] rfl)
theorem zw_X6_held_535 : Cond.constantLong RX6 53 (-2000000000) ∈ wsX6_held := List.mem_of_getElem? (i := 1) (by decide +kernel)
theorem zw_X6_held_536 : Cond.constantLong RX6 55 (2000000000) ∈ wsX6_held := List.mem_of_getElem? (i := 2) (by decide +kernel)
theorem zw_X6_held_537 : Cond.methodLink RX6 57 Lib.MathLoose.min_long.x ∈ wsX6_held := List.mem_of_getElem? (i := 3) (by decide +kernel)
theorem zw_X6_held_538 : Cond.static Lib.MathLoose.min_long.x ∈ wsX6_held := List.mem_of_getElem? (i := 4) (by decide +kernel)
theorem zw_X6_held_539 : Cond.initialized "java/lang/Math" ∈ wsX6_held := List.mem_of_getElem? (i := 5) (by decide +kernel)
theorem zw_X6_held_540 : Cond.code Lib.MathLoose.min_long.x Lib.MathLoose.min_long.code 4 (some .long) ∈ wsX6_held := List.mem_of_getElem? (i := 6) (by decide +kernel)
theorem zw_X6_held_541 : Cond.methodLink RX6 63 Lib.MathLoose.max_long.x ∈ wsX6_held := List.mem_of_getElem? (i := 7) (by decide +kernel)
theorem zw_X6_held_542 : Cond.static Lib.MathLoose.max_long.x ∈ wsX6_held := List.mem_of_getElem? (i := 8) (by decide +kernel)
theorem zw_X6_held_543 : Cond.code Lib.MathLoose.max_long.x Lib.MathLoose.max_long.code 4 (some .long) ∈ wsX6_held := List.mem_of_getElem? (i := 9) (by decide +kernel)
set_option maxHeartbeats 4000000 in
set_option maxRecDepth 100000 in
theorem zf_X6_held (l : Launch) (dC : Nat → ClassId) (dI : Nat → Nat → Nat) (j0 : Int64) (o : Int64) (hfn : fn_X6_held j0 = some o) (sz : Nat) : zMl l yX6_held wsX6_held ({ frames := 1, cells := 0, slots := 0, locals := 40 }) (dC, dI) vwCl [.long j0] [] [] (fun r _ => r = o) [] [] sz := by
  refine zgol (cc := cX6_held) (maxL := 2) (ret := (some .long)) (C0 := RX6) (lv0 := [(0, .long j0)]) zpl_X6 rfl rfl rfl (Nat.le_of_ble_eq_true rfl) ?_
  intro p e s m below meth c A ls Q hx hb hr hts hown hlocks hml hP hK hD hA hS hl hQ
  unfold fn_X6_held at hfn
  refine lv_ldc2 (v := (-2000000000)) hx hb hown (hts (.constantLong RX6 53 (-2000000000)) zw_X6_held_535) dX6_held_0 ?_
  refine lv_ldc2 (v := 2000000000) hx hb hown (hts (.constantLong RX6 55 (2000000000)) zw_X6_held_536) dX6_held_3 ?_
  refine lv_lload_n hx hb dX6_held_6 rfl (lv_at hl 0 rfl) ?_
  refine va_mmin_long hx hb (by rw [hml]; exact hl.1.symm) hown (hts (.methodLink RX6 57 Lib.MathLoose.min_long.x) zw_X6_held_537) (hts (.static Lib.MathLoose.min_long.x) zw_X6_held_538) (hts (.initialized "java/lang/Math") zw_X6_held_539) (hts (.code Lib.MathLoose.min_long.x Lib.MathLoose.min_long.code 4 (some .long)) zw_X6_held_540) (Nat.le_of_ble_eq_true rfl) (Nat.le_of_ble_eq_true rfl) (Nat.le_of_ble_eq_true rfl) (Nat.le_of_ble_eq_true rfl) dX6_held_7 ?_
  refine va_mmax_long hx hb (by rw [hml]; exact hl.1.symm) hown (hts (.methodLink RX6 63 Lib.MathLoose.max_long.x) zw_X6_held_541) (hts (.static Lib.MathLoose.max_long.x) zw_X6_held_542) (hts (.initialized "java/lang/Math") zw_X6_held_539) (hts (.code Lib.MathLoose.max_long.x Lib.MathLoose.max_long.code 4 (some .long)) zw_X6_held_543) (Nat.le_of_ble_eq_true rfl) (Nat.le_of_ble_eq_true rfl) (Nat.le_of_ble_eq_true rfl) (Nat.le_of_ble_eq_true rfl) dX6_held_10 ?_
  refine lv_topl (fun x_1 ex_1 => ?_)
  have hfn := zn_s hfn ex_1
  have ho := Option.some.inj hfn
  subst ho
  exact zrl hx hb hr hK hP hD hS hQ rfl hlocks dX6_held_13
theorem zn_X6_isWide_X6 : ∀ w ∈ wsX60, w ∈ wsX6_isWide := fun _ h => List.mem_cons_of_mem _ (List.mem_append_right _ h)
theorem zw_X6_isWide_548 : Cond.fieldLink RX6 18 "ShortEnough$Ranges" "wide" "[Z" ∈ wsX6_isWide := List.mem_of_getElem? (i := 1) (by decide +kernel)
set_option maxHeartbeats 4000000 in
set_option maxRecDepth 100000 in
theorem zf_X6_isWide (l : Launch) (dC : Nat → ClassId) (dI : Nat → Nat → Nat) (h0 : Nat) (p1 : Int32) (r0_0 : Nat) (r0_1 : Nat) (r0_2 : Nat) (k1 : Nat) (f1 : Nat → Int32) (o : Int32) (hfn : fn_X6_isWide p1 f1 = some o) (sz : Nat) : zMi l yX6_isWide wsX6_isWide ({ frames := 0, cells := 0, slots := 0, locals := 0 }) (dC, dI) vwCl [.ref h0, .int p1] [zV6 h0 r0_0 r0_1 r0_2, zVi r0_2 k1 14 f1] [(k1, .boolean)] (fun r _ => r = o ∧ narrow .boolean (.int o) = .int o) [zV6 h0 r0_0 r0_1 r0_2, zVi r0_2 k1 14 f1] [(k1, .boolean)] sz := by
  refine zgoi (cc := cX6_isWide) (maxL := 2) (ret := (some .boolean)) (C0 := RX6) (lv0 := [(0, .ref h0), (1, .int p1)]) zpl_X6 rfl rfl rfl (Nat.le_of_ble_eq_true rfl) ?_
  intro p e s m below meth c A ls Q hx hb hr hts hown hlocks hml hP hK hD hA hS hl hQ
  unfold fn_X6_isWide at hfn
  refine lv_iload_n hx hb dX6_isWide_0 rfl (lv_at hl 1 rfl) ?_
  refine lv_if_lt (tgt := 23) hx hb dX6_isWide_1 (of_decide_eq_true rfl) (fun c_1 => ?_) (fun c_1 => ?_)
  · have hfn := (if_pos c_1).symm.trans hfn
    refine lv_iconst (v := 0) hx hb dX6_isWide_23 zci_0 ?_
    have ho := Option.some.inj hfn
    subst ho
    exact zrz hx hb hr rfl hK hP hD hS hQ ⟨rfl, zB0⟩ hlocks dX6_isWide_24
  have hfn := (if_neg c_1).symm.trans hfn
  refine lv_iload_n hx hb dX6_isWide_4 rfl (lv_at hl 1 rfl) ?_
  refine lv_bipush (v := 14) hx hb dX6_isWide_5 zcb_14 ?_
  refine lv_icmp_ge (tgt := 23) hx hb dX6_isWide_7 (of_decide_eq_true rfl) (fun c_2 => ?_) (fun c_2 => ?_)
  · have hfn := (if_pos c_2).symm.trans hfn
    refine lv_iconst (v := 0) hx hb dX6_isWide_23 zci_0 ?_
    have ho := Option.some.inj hfn
    subst ho
    exact zrz hx hb hr rfl hK hP hD hS hQ ⟨rfl, zB0⟩ hlocks dX6_isWide_24
  have hfn := (if_neg c_2).symm.trans hfn
  refine lv_aload_n hx hb dX6_isWide_10 rfl (lv_at hl 0 rfl) ?_
  refine va_get (D := (dC, dI)) (ci := 6) (v := .ref r0_2) (C := RX6) (T := TX6) (N := 3) hx hb hts zn_X6_isWide_X6 hown hK hP 0 rfl rfl 2 (of_decide_eq_true rfl) (hts (.fieldLink RX6 18 "ShortEnough$Ranges" "wide" "[Z") zw_X6_isWide_548) (fun _ h9 => h9) rfl dX6_isWide_11 ?_
  refine lv_iload_n hx hb dX6_isWide_14 rfl (lv_at hl 1 rfl) ?_
  obtain ⟨h_3, hfn⟩ := zg_s hfn
  refine va_zald hx hb hK hP 1 0 rfl rfl h_3 dX6_isWide_15 ?_
  refine lv_if_eq (tgt := 23) hx hb dX6_isWide_16 (of_decide_eq_true rfl) (fun c_4 => ?_) (fun c_4 => ?_)
  · have hfn := (if_pos c_4).symm.trans hfn
    refine lv_iconst (v := 0) hx hb dX6_isWide_23 zci_0 ?_
    have ho := Option.some.inj hfn
    subst ho
    exact zrz hx hb hr rfl hK hP hD hS hQ ⟨rfl, zB0⟩ hlocks dX6_isWide_24
  have hfn := (if_neg c_4).symm.trans hfn
  refine lv_iconst (v := 1) hx hb dX6_isWide_19 zci_1 ?_
  refine lv_goto (tgt := 24) hx hb dX6_isWide_20 (of_decide_eq_true rfl) ?_
  have ho := Option.some.inj hfn
  subst ho
  exact zrz hx hb hr rfl hK hP hD hS hQ ⟨rfl, zB1⟩ hlocks dX6_isWide_24
theorem zn_X6_fill_X4 : ∀ w ∈ wsX40, w ∈ wsX6_fill := fun _ h => List.mem_cons_of_mem _ (List.mem_append_left _ (List.mem_append_right _ h))
theorem zw_X6_fill_532 : Cond.fieldLink RX6 22 "ShortEnough$Numbers" "count" "I" ∈ wsX6_fill := List.mem_of_getElem? (i := 1) (by decide +kernel)
theorem zn_X6_fill_X6 : ∀ w ∈ wsX60, w ∈ wsX6_fill := fun _ h => List.mem_cons_of_mem _ (List.mem_append_right _ h)
theorem zw_X6_fill_534 : Cond.fieldLink RX6 9 "ShortEnough$Ranges" "low" "[J" ∈ wsX6_fill := List.mem_of_getElem? (i := 2) (by decide +kernel)
theorem zw_X6_fill_544 : Cond.fieldLink RX6 15 "ShortEnough$Ranges" "high" "[J" ∈ wsX6_fill := List.mem_of_getElem? (i := 3) (by decide +kernel)
theorem zw_X6_fill_545 : Cond.fieldLink RX6 18 "ShortEnough$Ranges" "wide" "[Z" ∈ wsX6_fill := List.mem_of_getElem? (i := 4) (by decide +kernel)
theorem zw_X6_fill_546 : Cond.constantLong RX6 43 (1000000000) ∈ wsX6_fill := List.mem_of_getElem? (i := 5) (by decide +kernel)
set_option maxHeartbeats 4000000 in
set_option maxRecDepth 100000 in
theorem zf_X6_fill (l : Launch) (dC : Nat → ClassId) (dI : Nat → Nat → Nat) (h0 : Nat) (h1 : Nat) (p2 : Int32) (p3 : Int32) (r0_0 : Nat) (r0_1 : Nat) (r0_2 : Nat) (v1_0 : Int32) (v1_1 : Int32) (r1_2 : Nat) (r1_3 : Nat) (r1_4 : Nat) (r1_5 : Nat) (r1_6 : Nat) (r1_7 : Nat) (r1_8 : Nat) (r1_9 : Nat) (k2 : Nat) (f2 : Nat → Int32) (k3 : Nat) (f3 : Nat → Int32) (k4 : Nat) (f4 : Nat → Int32) (k5 : Nat) (f5 : Nat → Int64) (k6 : Nat) (f6 : Nat → Int64) (k7 : Nat) (f7 : Nat → Int32) (o : (Nat → Int64) × (Nat → Int64) × (Nat → Int32)) (hfn : fn_X6_fill p2 p3 v1_0 f2 f3 f4 f5 f6 f7 = some o) (sz : Nat) : zNv [(RX6, 83, yX11_apply, RX11)] l yX6_fill wsX6_fill ({ frames := 5, cells := 0, slots := 0, locals := 134 }) (dC, dI) vwCl [.ref h0, .ref h1, .int p2, .int p3] [zV6 h0 r0_0 r0_1 r0_2, zV4 h1 v1_0 v1_1 r1_2 r1_3 r1_4 r1_5 r1_6 r1_7 r1_8 r1_9, zVi r1_3 k2 14 f2, zVi r1_8 k3 28 f3, zVi r1_9 k4 28 f4, zVl r0_0 k5 14 f5, zVl r0_1 k6 14 f6, zVi r0_2 k7 14 f7] [(k2, .int), (k3, .int), (k4, .int), (k5, .long), (k6, .long), (k7, .boolean)] (fun _ => True) [zV6 h0 r0_0 r0_1 r0_2, zV4 h1 v1_0 v1_1 r1_2 r1_3 r1_4 r1_5 r1_6 r1_7 r1_8 r1_9, zVi r1_3 k2 14 f2, zVi r1_8 k3 28 f3, zVi r1_9 k4 28 f4, zVl r0_0 k5 14 o.1, zVl r0_1 k6 14 o.2.1, zVi r0_2 k7 14 o.2.2] [(k2, .int), (k3, .int), (k4, .int), (k5, .long), (k6, .long), (k7, .boolean)] sz := by
  refine zgoNv (cc := cX6_fill) (maxL := 7) (ret := none) (C0 := RX6) (lv0 := [(0, .ref h0), (1, .ref h1), (2, .int p2), (3, .int p3)]) zpl_X6 rfl rfl rfl (Nat.le_of_ble_eq_true rfl) ?_
  intro p e s m below meth c A ls Q hN hx hb hr hts hown hlocks hml hP hK hD hA hS hl hQ
  have hn0 : va_Nw (.methodLinkNest RX6 83 yX11_apply RX11) s := hN.1
  unfold fn_X6_fill at hfn
  refine lv_iconst (v := 0) hx hb dX6_fill_0 zci_0 ?_
  refine lv_istore (lv' := [(4, .int 0), (0, .ref h0), (1, .ref h1), (2, .int p2), (3, .int p3)]) hx hb dX6_fill_1 hl (of_decide_eq_true rfl) rfl (fun ls hl => ?_)
  obtain ⟨bd_1, ebd_1, hfn⟩ := zl_g hfn
  have lp_1 : ∀ (n : Nat) (s_1 : Int32 × (Nat → Int64) × (Nat → Int64) × (Nat → Int32)) (H : Heap) (locs : List Loc) (ls : Array Slot), zl bd_1 n s_1 = some o → va_P (dC, dI) vwCl [zV6 h0 r0_0 r0_1 r0_2, zV4 h1 v1_0 v1_1 r1_2 r1_3 r1_4 r1_5 r1_6 r1_7 r1_8 r1_9, zVi r1_3 k2 14 f2, zVi r1_8 k3 28 f3, zVi r1_9 k4 28 f4, zVl r0_0 k5 14 s_1.2.1, zVl r0_1 k6 14 s_1.2.2.1, zVi r0_2 k7 14 s_1.2.2.2] H → va_D A [zV6 h0 r0_0 r0_1 r0_2, zV4 h1 v1_0 v1_1 r1_2 r1_3 r1_4 r1_5 r1_6 r1_7 r1_8 r1_9, zVi r1_3 k2 14 f2, zVi r1_8 k3 28 f3, zVi r1_9 k4 28 f4, zVl r0_0 k5 14 s_1.2.1, zVl r0_1 k6 14 s_1.2.2.1, zVi r0_2 k7 14 s_1.2.2.2] → va_S A s.heap H locs → lv_has ls 7 [(4, .int s_1.1), (0, .ref h0), (1, .ref h1), (2, .int p2), (3, .int p3)] → W p l e (headSpec wsX6_fill ({ frames := 5, cells := 0, slots := 0, locals := 134 })).room s m ([.ref h0, .ref h1, .int p2, .int p3] : List Value).toArray below meth c H locs 0 0 Q (F0 m 3 ls []) := by
    intro n
    induction n with
    | zero => exact fun _ _ _ _ hfn => (zl_0 hfn).elim
    | succ n ih_1 =>
      intro s_1 H locs ls hfn hP hD hS hl
      have hfn := zl_s ebd_1 hfn
      refine lv_iload hx hb dX6_fill_3 (lv_at hl 0 rfl) ?_
      refine lv_aload_n hx hb dX6_fill_5 rfl (lv_at hl 2 rfl) ?_
      refine va_get (D := (dC, dI)) (ci := 4) (v := .int v1_0) (C := RX4) (T := TX4) (N := 10) hx hb hts zn_X6_fill_X4 hown hK hP 1 rfl rfl 0 (of_decide_eq_true rfl) (hts (.fieldLink RX6 22 "ShortEnough$Numbers" "count" "I") zw_X6_fill_532) (fun _ h9 => h9) rfl dX6_fill_6 ?_
      refine lv_icmp_ge (tgt := 125) hx hb dX6_fill_9 (of_decide_eq_true rfl) (fun c_2 => ?_) (fun c_2 => ?_)
      · have hfn := (if_pos c_2).symm.trans hfn
        have ho := Option.some.inj hfn
        subst ho
        exact zrv hx hb hr hK hP hD hS hQ trivial hlocks dX6_fill_125
      have hfn := (if_neg c_2).symm.trans hfn
      refine lv_iload hx hb dX6_fill_12 (lv_at hl 0 rfl) ?_
      refine lv_iload_n hx hb dX6_fill_14 rfl (lv_at hl 3 rfl) ?_
      obtain ⟨j_3, ej_3, hfn⟩ := zj_g hfn
      have jp_3 : ∀ (s_3 : Int64) (H : Heap) (locs : List Loc) (ls : Array Slot), j_3 s_3 = some o → va_P (dC, dI) vwCl [zV6 h0 r0_0 r0_1 r0_2, zV4 h1 v1_0 v1_1 r1_2 r1_3 r1_4 r1_5 r1_6 r1_7 r1_8 r1_9, zVi r1_3 k2 14 f2, zVi r1_8 k3 28 f3, zVi r1_9 k4 28 f4, zVl r0_0 k5 14 s_1.2.1, zVl r0_1 k6 14 s_1.2.2.1, zVi r0_2 k7 14 s_1.2.2.2] H → va_D A [zV6 h0 r0_0 r0_1 r0_2, zV4 h1 v1_0 v1_1 r1_2 r1_3 r1_4 r1_5 r1_6 r1_7 r1_8 r1_9, zVi r1_3 k2 14 f2, zVi r1_8 k3 28 f3, zVi r1_9 k4 28 f4, zVl r0_0 k5 14 s_1.2.1, zVl r0_1 k6 14 s_1.2.2.1, zVi r0_2 k7 14 s_1.2.2.2] → va_S A s.heap H locs → lv_has ls 7 [(4, .int s_1.1), (0, .ref h0), (1, .ref h1), (2, .int p2), (3, .int p3)] → W p l e (headSpec wsX6_fill ({ frames := 5, cells := 0, slots := 0, locals := 134 })).room s m ([.ref h0, .ref h1, .int p2, .int p3] : List Value).toArray below meth c H locs 0 0 Q (F0 m 24 ls [.long s_3]) := by
        intro s_3 H locs ls hfn hP hD hS hl
        have hfn := zj_s ej_3 hfn
        refine lv_lstore (lv' := [(5, .long s_3), (4, .int s_1.1), (0, .ref h0), (1, .ref h1), (2, .int p2), (3, .int p3)]) hx hb dX6_fill_24 hl (of_decide_eq_true rfl) rfl (fun ls hl => ?_)
        refine lv_aload_n hx hb dX6_fill_26 rfl (lv_at hl 2 rfl) ?_
        refine va_get (D := (dC, dI)) (ci := 6) (v := .ref r0_0) (C := RX6) (T := TX6) (N := 3) hx hb hts zn_X6_fill_X6 hown hK hP 0 rfl rfl 0 (of_decide_eq_true rfl) (hts (.fieldLink RX6 9 "ShortEnough$Ranges" "low" "[J") zw_X6_fill_534) (fun _ h9 => h9) rfl dX6_fill_27 ?_
        refine lv_iload hx hb dX6_fill_30 (lv_at hl 1 rfl) ?_
        refine lv_aload_n hx hb dX6_fill_32 rfl (lv_at hl 2 rfl) ?_
        refine lv_aload_n hx hb dX6_fill_33 rfl (lv_at hl 3 rfl) ?_
        refine lv_iload hx hb dX6_fill_34 (lv_at hl 1 rfl) ?_
        obtain ⟨o_4, hqo_4, hfn⟩ := zb_s hfn
        refine zcNVl (ci := 6) (rest := [.int s_1.1, .ref r0_0]) (pc' := 39) (ws' := [zV6 h0 r0_0 r0_1 r0_2, zV4 h1 v1_0 v1_1 r1_2 r1_3 r1_4 r1_5 r1_6 r1_7 r1_8 r1_9, zVi r1_3 k2 14 f2, zVi r1_8 k3 28 f3, zVi r1_9 k4 28 f4, zVl r0_0 k5 14 s_1.2.1, zVl r0_1 k6 14 s_1.2.2.1, zVi r0_2 k7 14 s_1.2.2.2]) hP hK hD hS hA ⟨hx, hb, hml, hown, hts⟩ (zf_X6_lowest l dC dI h0 h1 s_1.1 r0_0 r0_1 r0_2 v1_0 v1_1 r1_2 r1_3 r1_4 r1_5 r1_6 r1_7 r1_8 r1_9 k2 f2 k3 f3 k4 f4 k5 s_1.2.1 k6 s_1.2.2.1 o_4 hqo_4 H.size) ⟨hn0, trivial⟩ (cwV 2 hts gX6_fill_X6_lowest rfl rfl rfl zhd_X6_lowest ⟨Nat.le_of_ble_eq_true rfl, Nat.le_of_ble_eq_true rfl⟩) [0, 1, 2, 3, 4, 5, 6] rfl (of_decide_eq_true rfl) [0, 1, 2, 3, 4] rfl rfl rfl rfl hl.1 rfl (Nat.le_of_ble_eq_true rfl) dX6_fill_36 ⟨Nat.le_of_ble_eq_true rfl, Nat.le_of_ble_eq_true rfl⟩ [some 0, some 1, some 2, some 3, some 4, some 5, some 6] (of_decide_eq_true rfl) (of_decide_eq_true rfl) rfl rfl rfl (fun H locs hP hD hS => ?_)
        refine lv_lload hx hb dX6_fill_39 (lv_at hl 0 rfl) ?_
        refine lv_lsub hx hb dX6_fill_41 ?_
        obtain ⟨o_8, hqo_8, hfn⟩ := zb_s hfn
        refine zcSl (rest := [.int s_1.1, .ref r0_0]) (pc' := 45) (ws' := [zV6 h0 r0_0 r0_1 r0_2, zV4 h1 v1_0 v1_1 r1_2 r1_3 r1_4 r1_5 r1_6 r1_7 r1_8 r1_9, zVi r1_3 k2 14 f2, zVi r1_8 k3 28 f3, zVi r1_9 k4 28 f4, zVl r0_0 k5 14 s_1.2.1, zVl r0_1 k6 14 s_1.2.2.1, zVi r0_2 k7 14 s_1.2.2.2]) hP hK hD hS hA ⟨hx, hb, hml, hown, hts⟩ (zf_X6_held l dC dI (o_4 - s_3) o_8 hqo_8 H.size) (va_cwS 1 hts gX6_fill_X6_held rfl rfl rfl zhd_X6_held.2 ⟨Nat.le_of_ble_eq_true rfl, Nat.le_of_ble_eq_true rfl⟩) [] rfl (of_decide_eq_true rfl) [] rfl rfl hl.1 rfl (Nat.le_of_ble_eq_true rfl) dX6_fill_42 ⟨Nat.le_of_ble_eq_true rfl, Nat.le_of_ble_eq_true rfl⟩ [] (of_decide_eq_true rfl) (of_decide_eq_true rfl) rfl rfl rfl (fun H locs hP hD hS => ?_)
        obtain ⟨h_12, hfn⟩ := zg_s hfn
        refine va_last hx hb hK hP hD hS 5 3 rfl rfl h_12 dX6_fill_45 (fun H locs hP hD hS => ?_)
        have hP : va_P (dC, dI) vwCl [zV6 h0 r0_0 r0_1 r0_2, zV4 h1 v1_0 v1_1 r1_2 r1_3 r1_4 r1_5 r1_6 r1_7 r1_8 r1_9, zVi r1_3 k2 14 f2, zVi r1_8 k3 28 f3, zVi r1_9 k4 28 f4, zVl r0_0 k5 14 (vp_updL s_1.2.1 s_1.1.toNatClampNeg o_8), zVl r0_1 k6 14 s_1.2.2.1, zVi r0_2 k7 14 s_1.2.2.2] H := hP
        have hD := zDW hD hP rfl
        refine lv_aload_n hx hb dX6_fill_46 rfl (lv_at hl 2 rfl) ?_
        refine va_get (D := (dC, dI)) (ci := 6) (v := .ref r0_1) (C := RX6) (T := TX6) (N := 3) hx hb hts zn_X6_fill_X6 hown hK hP 0 rfl rfl 1 (of_decide_eq_true rfl) (hts (.fieldLink RX6 15 "ShortEnough$Ranges" "high" "[J") zw_X6_fill_544) (fun _ h9 => h9) rfl dX6_fill_47 ?_
        refine lv_iload hx hb dX6_fill_50 (lv_at hl 1 rfl) ?_
        refine lv_aload_n hx hb dX6_fill_52 rfl (lv_at hl 2 rfl) ?_
        refine lv_aload_n hx hb dX6_fill_53 rfl (lv_at hl 3 rfl) ?_
        refine lv_iload hx hb dX6_fill_54 (lv_at hl 1 rfl) ?_
        obtain ⟨o_13, hqo_13, hfn⟩ := zb_s hfn
        refine zcNVl (ci := 6) (rest := [.int s_1.1, .ref r0_1]) (pc' := 59) (ws' := [zV6 h0 r0_0 r0_1 r0_2, zV4 h1 v1_0 v1_1 r1_2 r1_3 r1_4 r1_5 r1_6 r1_7 r1_8 r1_9, zVi r1_3 k2 14 f2, zVi r1_8 k3 28 f3, zVi r1_9 k4 28 f4, zVl r0_0 k5 14 (vp_updL s_1.2.1 s_1.1.toNatClampNeg o_8), zVl r0_1 k6 14 s_1.2.2.1, zVi r0_2 k7 14 s_1.2.2.2]) hP hK hD hS hA ⟨hx, hb, hml, hown, hts⟩ (zf_X6_highest l dC dI h0 h1 s_1.1 r0_0 r0_1 r0_2 v1_0 v1_1 r1_2 r1_3 r1_4 r1_5 r1_6 r1_7 r1_8 r1_9 k2 f2 k3 f3 k4 f4 k6 s_1.2.2.1 k5 (vp_updL s_1.2.1 s_1.1.toNatClampNeg o_8) o_13 hqo_13 H.size) ⟨hn0, trivial⟩ (cwV 2 hts gX6_fill_X6_highest rfl rfl rfl zhd_X6_highest ⟨Nat.le_of_ble_eq_true rfl, Nat.le_of_ble_eq_true rfl⟩) [0, 1, 2, 3, 4, 6, 5] rfl (of_decide_eq_true rfl) [0, 1, 2, 4, 3] rfl rfl rfl rfl hl.1 rfl (Nat.le_of_ble_eq_true rfl) dX6_fill_56 ⟨Nat.le_of_ble_eq_true rfl, Nat.le_of_ble_eq_true rfl⟩ [some 0, some 1, some 2, some 3, some 4, some 6, some 5] (of_decide_eq_true rfl) (of_decide_eq_true rfl) rfl rfl rfl (fun H locs hP hD hS => ?_)
        refine lv_lload hx hb dX6_fill_59 (lv_at hl 0 rfl) ?_
        refine lv_ladd hx hb dX6_fill_61 ?_
        obtain ⟨o_17, hqo_17, hfn⟩ := zb_s hfn
        refine zcSl (rest := [.int s_1.1, .ref r0_1]) (pc' := 65) (ws' := [zV6 h0 r0_0 r0_1 r0_2, zV4 h1 v1_0 v1_1 r1_2 r1_3 r1_4 r1_5 r1_6 r1_7 r1_8 r1_9, zVi r1_3 k2 14 f2, zVi r1_8 k3 28 f3, zVi r1_9 k4 28 f4, zVl r0_0 k5 14 (vp_updL s_1.2.1 s_1.1.toNatClampNeg o_8), zVl r0_1 k6 14 s_1.2.2.1, zVi r0_2 k7 14 s_1.2.2.2]) hP hK hD hS hA ⟨hx, hb, hml, hown, hts⟩ (zf_X6_held l dC dI (o_13 + s_3) o_17 hqo_17 H.size) (va_cwS 1 hts gX6_fill_X6_held rfl rfl rfl zhd_X6_held.2 ⟨Nat.le_of_ble_eq_true rfl, Nat.le_of_ble_eq_true rfl⟩) [] rfl (of_decide_eq_true rfl) [] rfl rfl hl.1 rfl (Nat.le_of_ble_eq_true rfl) dX6_fill_62 ⟨Nat.le_of_ble_eq_true rfl, Nat.le_of_ble_eq_true rfl⟩ [] (of_decide_eq_true rfl) (of_decide_eq_true rfl) rfl rfl rfl (fun H locs hP hD hS => ?_)
        refine va_last hx hb hK hP hD hS 6 4 rfl rfl h_12 dX6_fill_65 (fun H locs hP hD hS => ?_)
        have hP : va_P (dC, dI) vwCl [zV6 h0 r0_0 r0_1 r0_2, zV4 h1 v1_0 v1_1 r1_2 r1_3 r1_4 r1_5 r1_6 r1_7 r1_8 r1_9, zVi r1_3 k2 14 f2, zVi r1_8 k3 28 f3, zVi r1_9 k4 28 f4, zVl r0_0 k5 14 (vp_updL s_1.2.1 s_1.1.toNatClampNeg o_8), zVl r0_1 k6 14 (vp_updL s_1.2.2.1 s_1.1.toNatClampNeg o_17), zVi r0_2 k7 14 s_1.2.2.2] H := hP
        have hD := zDW hD hP rfl
        refine lv_aload_n hx hb dX6_fill_66 rfl (lv_at hl 2 rfl) ?_
        refine va_get (D := (dC, dI)) (ci := 6) (v := .ref r0_2) (C := RX6) (T := TX6) (N := 3) hx hb hts zn_X6_fill_X6 hown hK hP 0 rfl rfl 2 (of_decide_eq_true rfl) (hts (.fieldLink RX6 18 "ShortEnough$Ranges" "wide" "[Z") zw_X6_fill_545) (fun _ h9 => h9) rfl dX6_fill_67 ?_
        refine lv_iload hx hb dX6_fill_70 (lv_at hl 1 rfl) ?_
        refine lv_aload_n hx hb dX6_fill_72 rfl (lv_at hl 2 rfl) ?_
        refine lv_iload hx hb dX6_fill_73 (lv_at hl 1 rfl) ?_
        obtain ⟨o_21, hqo_21, hfn⟩ := zb_s hfn
        refine zcVl (ci := 6) (rest := [.int s_1.1, .ref r0_2]) (pc' := 78) (ws' := [zV6 h0 r0_0 r0_1 r0_2, zV4 h1 v1_0 v1_1 r1_2 r1_3 r1_4 r1_5 r1_6 r1_7 r1_8 r1_9, zVi r1_3 k2 14 f2, zVi r1_8 k3 28 f3, zVi r1_9 k4 28 f4, zVl r0_0 k5 14 (vp_updL s_1.2.1 s_1.1.toNatClampNeg o_8), zVl r0_1 k6 14 (vp_updL s_1.2.2.1 s_1.1.toNatClampNeg o_17), zVi r0_2 k7 14 s_1.2.2.2]) hP hK hD hS hA ⟨hx, hb, hml, hown, hts⟩ (zf_X6_amountOf l dC dI h0 s_1.1 r0_0 r0_1 r0_2 k5 (vp_updL s_1.2.1 s_1.1.toNatClampNeg o_8) k6 (vp_updL s_1.2.2.1 s_1.1.toNatClampNeg o_17) o_21 hqo_21 H.size) (cwV 1 hts gX6_fill_X6_amountOf rfl rfl rfl zhd_X6_amountOf ⟨Nat.le_of_ble_eq_true rfl, Nat.le_of_ble_eq_true rfl⟩) [0, 5, 6] rfl (of_decide_eq_true rfl) [3, 4] rfl rfl rfl rfl hl.1 rfl (Nat.le_of_ble_eq_true rfl) dX6_fill_75 ⟨Nat.le_of_ble_eq_true rfl, Nat.le_of_ble_eq_true rfl⟩ [some 0, none, none, none, none, some 1, some 2] (of_decide_eq_true rfl) (of_decide_eq_true rfl) rfl rfl rfl (fun H locs hP hD hS => ?_)
        refine lv_ldc2 (v := 1000000000) hx hb hown (hts (.constantLong RX6 43 (1000000000)) zw_X6_fill_546) dX6_fill_78 ?_
        refine W.lcmp hx hb dX6_fill_81 ?_
        refine lv_if_gt (tgt := 113) hx hb dX6_fill_82 (of_decide_eq_true rfl) (fun c_25 => ?_) (fun c_25 => ?_)
        · have hfn := (if_pos c_25).symm.trans hfn
          refine lv_iconst (v := 1) hx hb dX6_fill_113 zci_1 ?_
          refine lv_goto (tgt := 118) hx hb dX6_fill_114 (of_decide_eq_true rfl) ?_
          refine va_zast hx hb hK hP hD hS 7 5 rfl rfl h_12 dX6_fill_118 (fun H locs hP hD hS => ?_)
          have hP : va_P (dC, dI) vwCl [zV6 h0 r0_0 r0_1 r0_2, zV4 h1 v1_0 v1_1 r1_2 r1_3 r1_4 r1_5 r1_6 r1_7 r1_8 r1_9, zVi r1_3 k2 14 f2, zVi r1_8 k3 28 f3, zVi r1_9 k4 28 f4, zVl r0_0 k5 14 (vp_updL s_1.2.1 s_1.1.toNatClampNeg o_8), zVl r0_1 k6 14 (vp_updL s_1.2.2.1 s_1.1.toNatClampNeg o_17), zVi r0_2 k7 14 (upd s_1.2.2.2 s_1.1.toNatClampNeg (vp_nar .boolean 1))] H := hP
          have hD := zDW hD hP rfl
          refine lv_iinc (v := (s_1.1 + 1)) (lv' := [(4, .int (s_1.1 + 1)), (5, .long s_3), (0, .ref h0), (1, .ref h1), (2, .int p2), (3, .int p3)]) hx hb dX6_fill_119 hl (k := 1) rfl rfl (of_decide_eq_true rfl) rfl (fun ls hl => ?_)
          refine lv_goto (tgt := 3) hx hb dX6_fill_122 (of_decide_eq_true rfl) ?_
          exact ih_1 ((s_1.1 + 1), (vp_updL s_1.2.1 s_1.1.toNatClampNeg o_8), (vp_updL s_1.2.2.1 s_1.1.toNatClampNeg o_17), (upd s_1.2.2.2 s_1.1.toNatClampNeg (vp_nar .boolean 1))) H locs ls hfn hP hD hS (lv_sub hl [0, 2, 3, 4, 5] rfl)
        have hfn := (if_neg c_25).symm.trans hfn
        refine lv_aload_n hx hb dX6_fill_85 rfl (lv_at hl 2 rfl) ?_
        refine lv_aload_n hx hb dX6_fill_86 rfl (lv_at hl 3 rfl) ?_
        refine lv_iload hx hb dX6_fill_87 (lv_at hl 1 rfl) ?_
        refine lv_iconst (v := 0) hx hb dX6_fill_89 zci_0 ?_
        obtain ⟨o_26, hqo_26, hfn⟩ := zb_s hfn
        refine zcVi (ci := 4) (rest := [.ref h0, .int s_1.1, .ref r0_2]) (pc' := 93) (ws' := [zV6 h0 r0_0 r0_1 r0_2, zV4 h1 v1_0 v1_1 r1_2 r1_3 r1_4 r1_5 r1_6 r1_7 r1_8 r1_9, zVi r1_3 k2 14 f2, zVi r1_8 k3 28 f3, zVi r1_9 k4 28 f4, zVl r0_0 k5 14 (vp_updL s_1.2.1 s_1.1.toNatClampNeg o_8), zVl r0_1 k6 14 (vp_updL s_1.2.2.1 s_1.1.toNatClampNeg o_17), zVi r0_2 k7 14 s_1.2.2.2]) hP hK hD hS hA ⟨hx, hb, hml, hown, hts⟩ (zf_X4_madeOf l dC dI h1 s_1.1 0 v1_0 v1_1 r1_2 r1_3 r1_4 r1_5 r1_6 r1_7 r1_8 r1_9 k3 f3 o_26 hqo_26 H.size) (cwV 2 hts gX6_fill_X4_madeOf rfl rfl rfl zhd_X4_madeOf ⟨Nat.le_of_ble_eq_true rfl, Nat.le_of_ble_eq_true rfl⟩) [1, 3] rfl (of_decide_eq_true rfl) [1] rfl rfl rfl rfl hl.1 rfl (Nat.le_of_ble_eq_true rfl) dX6_fill_90 ⟨Nat.le_of_ble_eq_true rfl, Nat.le_of_ble_eq_true rfl⟩ [none, some 0, none, some 1] (of_decide_eq_true rfl) (of_decide_eq_true rfl) rfl rfl rfl (fun H locs hP hD hS => ?_)
        obtain ⟨o_30, hqo_30, hfn⟩ := zb_s hfn
        refine zcVb (ci := 6) (rest := [.int s_1.1, .ref r0_2]) (pc' := 96) (ws' := [zV6 h0 r0_0 r0_1 r0_2, zV4 h1 v1_0 v1_1 r1_2 r1_3 r1_4 r1_5 r1_6 r1_7 r1_8 r1_9, zVi r1_3 k2 14 f2, zVi r1_8 k3 28 f3, zVi r1_9 k4 28 f4, zVl r0_0 k5 14 (vp_updL s_1.2.1 s_1.1.toNatClampNeg o_8), zVl r0_1 k6 14 (vp_updL s_1.2.2.1 s_1.1.toNatClampNeg o_17), zVi r0_2 k7 14 s_1.2.2.2]) hP hK hD hS hA ⟨hx, hb, hml, hown, hts⟩ (zf_X6_isWide l dC dI h0 o_26 r0_0 r0_1 r0_2 k7 s_1.2.2.2 o_30 hqo_30 H.size) (cwV 1 hts gX6_fill_X6_isWide rfl rfl rfl zhd_X6_isWide ⟨Nat.le_of_ble_eq_true rfl, Nat.le_of_ble_eq_true rfl⟩) [0, 7] rfl (of_decide_eq_true rfl) [5] rfl rfl rfl rfl hl.1 rfl (Nat.le_of_ble_eq_true rfl) dX6_fill_93 ⟨Nat.le_of_ble_eq_true rfl, Nat.le_of_ble_eq_true rfl⟩ [some 0, none, none, none, none, none, none, some 1] (of_decide_eq_true rfl) (of_decide_eq_true rfl) rfl rfl rfl (fun H locs hw_33n hP hD hS => ?_)
        refine lv_if_ne (tgt := 113) hx hb dX6_fill_96 (of_decide_eq_true rfl) (fun c_34 => ?_) (fun c_34 => ?_)
        · have hfn := (if_neg c_34).symm.trans hfn
          refine lv_iconst (v := 1) hx hb dX6_fill_113 zci_1 ?_
          refine lv_goto (tgt := 118) hx hb dX6_fill_114 (of_decide_eq_true rfl) ?_
          refine va_zast hx hb hK hP hD hS 7 5 rfl rfl h_12 dX6_fill_118 (fun H locs hP hD hS => ?_)
          have hP : va_P (dC, dI) vwCl [zV6 h0 r0_0 r0_1 r0_2, zV4 h1 v1_0 v1_1 r1_2 r1_3 r1_4 r1_5 r1_6 r1_7 r1_8 r1_9, zVi r1_3 k2 14 f2, zVi r1_8 k3 28 f3, zVi r1_9 k4 28 f4, zVl r0_0 k5 14 (vp_updL s_1.2.1 s_1.1.toNatClampNeg o_8), zVl r0_1 k6 14 (vp_updL s_1.2.2.1 s_1.1.toNatClampNeg o_17), zVi r0_2 k7 14 (upd s_1.2.2.2 s_1.1.toNatClampNeg (vp_nar .boolean 1))] H := hP
          have hD := zDW hD hP rfl
          refine lv_iinc (v := (s_1.1 + 1)) (lv' := [(4, .int (s_1.1 + 1)), (5, .long s_3), (0, .ref h0), (1, .ref h1), (2, .int p2), (3, .int p3)]) hx hb dX6_fill_119 hl (k := 1) rfl rfl (of_decide_eq_true rfl) rfl (fun ls hl => ?_)
          refine lv_goto (tgt := 3) hx hb dX6_fill_122 (of_decide_eq_true rfl) ?_
          exact ih_1 ((s_1.1 + 1), (vp_updL s_1.2.1 s_1.1.toNatClampNeg o_8), (vp_updL s_1.2.2.1 s_1.1.toNatClampNeg o_17), (upd s_1.2.2.2 s_1.1.toNatClampNeg (vp_nar .boolean 1))) H locs ls hfn hP hD hS (lv_sub hl [0, 2, 3, 4, 5] rfl)
        have hfn := (if_pos c_34).symm.trans hfn
        refine lv_aload_n hx hb dX6_fill_99 rfl (lv_at hl 2 rfl) ?_
        refine lv_aload_n hx hb dX6_fill_100 rfl (lv_at hl 3 rfl) ?_
        refine lv_iload hx hb dX6_fill_101 (lv_at hl 1 rfl) ?_
        refine lv_iconst (v := 1) hx hb dX6_fill_103 zci_1 ?_
        obtain ⟨o_35, hqo_35, hfn⟩ := zb_s hfn
        refine zcVi (ci := 4) (rest := [.ref h0, .int s_1.1, .ref r0_2]) (pc' := 107) (ws' := [zV6 h0 r0_0 r0_1 r0_2, zV4 h1 v1_0 v1_1 r1_2 r1_3 r1_4 r1_5 r1_6 r1_7 r1_8 r1_9, zVi r1_3 k2 14 f2, zVi r1_8 k3 28 f3, zVi r1_9 k4 28 f4, zVl r0_0 k5 14 (vp_updL s_1.2.1 s_1.1.toNatClampNeg o_8), zVl r0_1 k6 14 (vp_updL s_1.2.2.1 s_1.1.toNatClampNeg o_17), zVi r0_2 k7 14 s_1.2.2.2]) hP hK hD hS hA ⟨hx, hb, hml, hown, hts⟩ (zf_X4_madeOf l dC dI h1 s_1.1 1 v1_0 v1_1 r1_2 r1_3 r1_4 r1_5 r1_6 r1_7 r1_8 r1_9 k3 f3 o_35 hqo_35 H.size) (cwV 2 hts gX6_fill_X4_madeOf rfl rfl rfl zhd_X4_madeOf ⟨Nat.le_of_ble_eq_true rfl, Nat.le_of_ble_eq_true rfl⟩) [1, 3] rfl (of_decide_eq_true rfl) [1] rfl rfl rfl rfl hl.1 rfl (Nat.le_of_ble_eq_true rfl) dX6_fill_104 ⟨Nat.le_of_ble_eq_true rfl, Nat.le_of_ble_eq_true rfl⟩ [none, some 0, none, some 1] (of_decide_eq_true rfl) (of_decide_eq_true rfl) rfl rfl rfl (fun H locs hP hD hS => ?_)
        obtain ⟨o_39, hqo_39, hfn⟩ := zb_s hfn
        refine zcVb (ci := 6) (rest := [.int s_1.1, .ref r0_2]) (pc' := 110) (ws' := [zV6 h0 r0_0 r0_1 r0_2, zV4 h1 v1_0 v1_1 r1_2 r1_3 r1_4 r1_5 r1_6 r1_7 r1_8 r1_9, zVi r1_3 k2 14 f2, zVi r1_8 k3 28 f3, zVi r1_9 k4 28 f4, zVl r0_0 k5 14 (vp_updL s_1.2.1 s_1.1.toNatClampNeg o_8), zVl r0_1 k6 14 (vp_updL s_1.2.2.1 s_1.1.toNatClampNeg o_17), zVi r0_2 k7 14 s_1.2.2.2]) hP hK hD hS hA ⟨hx, hb, hml, hown, hts⟩ (zf_X6_isWide l dC dI h0 o_35 r0_0 r0_1 r0_2 k7 s_1.2.2.2 o_39 hqo_39 H.size) (cwV 1 hts gX6_fill_X6_isWide rfl rfl rfl zhd_X6_isWide ⟨Nat.le_of_ble_eq_true rfl, Nat.le_of_ble_eq_true rfl⟩) [0, 7] rfl (of_decide_eq_true rfl) [5] rfl rfl rfl rfl hl.1 rfl (Nat.le_of_ble_eq_true rfl) dX6_fill_107 ⟨Nat.le_of_ble_eq_true rfl, Nat.le_of_ble_eq_true rfl⟩ [some 0, none, none, none, none, none, none, some 1] (of_decide_eq_true rfl) (of_decide_eq_true rfl) rfl rfl rfl (fun H locs hw_42n hP hD hS => ?_)
        refine lv_if_eq (tgt := 117) hx hb dX6_fill_110 (of_decide_eq_true rfl) (fun c_43 => ?_) (fun c_43 => ?_)
        · have hfn := (if_pos c_43).symm.trans hfn
          refine lv_iconst (v := 0) hx hb dX6_fill_117 zci_0 ?_
          refine va_zast hx hb hK hP hD hS 7 5 rfl rfl h_12 dX6_fill_118 (fun H locs hP hD hS => ?_)
          have hP : va_P (dC, dI) vwCl [zV6 h0 r0_0 r0_1 r0_2, zV4 h1 v1_0 v1_1 r1_2 r1_3 r1_4 r1_5 r1_6 r1_7 r1_8 r1_9, zVi r1_3 k2 14 f2, zVi r1_8 k3 28 f3, zVi r1_9 k4 28 f4, zVl r0_0 k5 14 (vp_updL s_1.2.1 s_1.1.toNatClampNeg o_8), zVl r0_1 k6 14 (vp_updL s_1.2.2.1 s_1.1.toNatClampNeg o_17), zVi r0_2 k7 14 (upd s_1.2.2.2 s_1.1.toNatClampNeg (vp_nar .boolean 0))] H := hP
          have hD := zDW hD hP rfl
          refine lv_iinc (v := (s_1.1 + 1)) (lv' := [(4, .int (s_1.1 + 1)), (5, .long s_3), (0, .ref h0), (1, .ref h1), (2, .int p2), (3, .int p3)]) hx hb dX6_fill_119 hl (k := 1) rfl rfl (of_decide_eq_true rfl) rfl (fun ls hl => ?_)
          refine lv_goto (tgt := 3) hx hb dX6_fill_122 (of_decide_eq_true rfl) ?_
          exact ih_1 ((s_1.1 + 1), (vp_updL s_1.2.1 s_1.1.toNatClampNeg o_8), (vp_updL s_1.2.2.1 s_1.1.toNatClampNeg o_17), (upd s_1.2.2.2 s_1.1.toNatClampNeg (vp_nar .boolean 0))) H locs ls hfn hP hD hS (lv_sub hl [0, 2, 3, 4, 5] rfl)
        have hfn := (if_neg c_43).symm.trans hfn
        refine lv_iconst (v := 1) hx hb dX6_fill_113 zci_1 ?_
        refine lv_goto (tgt := 118) hx hb dX6_fill_114 (of_decide_eq_true rfl) ?_
        refine va_zast hx hb hK hP hD hS 7 5 rfl rfl h_12 dX6_fill_118 (fun H locs hP hD hS => ?_)
        have hP : va_P (dC, dI) vwCl [zV6 h0 r0_0 r0_1 r0_2, zV4 h1 v1_0 v1_1 r1_2 r1_3 r1_4 r1_5 r1_6 r1_7 r1_8 r1_9, zVi r1_3 k2 14 f2, zVi r1_8 k3 28 f3, zVi r1_9 k4 28 f4, zVl r0_0 k5 14 (vp_updL s_1.2.1 s_1.1.toNatClampNeg o_8), zVl r0_1 k6 14 (vp_updL s_1.2.2.1 s_1.1.toNatClampNeg o_17), zVi r0_2 k7 14 (upd s_1.2.2.2 s_1.1.toNatClampNeg (vp_nar .boolean 1))] H := hP
        have hD := zDW hD hP rfl
        refine lv_iinc (v := (s_1.1 + 1)) (lv' := [(4, .int (s_1.1 + 1)), (5, .long s_3), (0, .ref h0), (1, .ref h1), (2, .int p2), (3, .int p3)]) hx hb dX6_fill_119 hl (k := 1) rfl rfl (of_decide_eq_true rfl) rfl (fun ls hl => ?_)
        refine lv_goto (tgt := 3) hx hb dX6_fill_122 (of_decide_eq_true rfl) ?_
        exact ih_1 ((s_1.1 + 1), (vp_updL s_1.2.1 s_1.1.toNatClampNeg o_8), (vp_updL s_1.2.2.1 s_1.1.toNatClampNeg o_17), (upd s_1.2.2.2 s_1.1.toNatClampNeg (vp_nar .boolean 1))) H locs ls hfn hP hD hS (lv_sub hl [0, 2, 3, 4, 5] rfl)
      refine lv_icmp_ne (tgt := 23) hx hb dX6_fill_15 (of_decide_eq_true rfl) (fun c_44 => ?_) (fun c_44 => ?_)
      · have hfn := (if_neg c_44).symm.trans hfn
        refine lv_lconst (v := 0) hx hb dX6_fill_23 (by decide +kernel) ?_
        exact jp_3 0 H locs ls hfn hP hD hS (lv_sub hl [0, 1, 2, 3, 4] rfl)
      have hfn := (if_pos c_44).symm.trans hfn
      refine lv_iload_n hx hb dX6_fill_18 rfl (lv_at hl 4 rfl) ?_
      refine lv_i2l (v := p3.toInt64) hx hb dX6_fill_19 rfl ?_
      refine lv_goto (tgt := 24) hx hb dX6_fill_20 (of_decide_eq_true rfl) ?_
      exact jp_3 p3.toInt64 H locs ls hfn hP hD hS (lv_sub hl [0, 1, 2, 3, 4] rfl)
  exact lp_1 _ (0, f5, f6, f7) s.heap [] ls hfn hP hD hS (lv_sub hl [0, 1, 2, 3, 4] rfl)
theorem zn_X8_whatOf_X9 : ∀ w ∈ wsX90, w ∈ wsX8_whatOf := fun _ h => List.mem_cons_of_mem _ (List.mem_append_left _ (List.mem_append_right _ h))
theorem zw_X8_whatOf_557 : Cond.fieldLink RX8 18 "ShortEnough$Task" "numbers" "LShortEnough$Numbers;" ∈ wsX8_whatOf := List.mem_of_getElem? (i := 1) (by decide +kernel)
set_option maxHeartbeats 4000000 in
set_option maxRecDepth 100000 in
theorem zf_X8_whatOf (l : Launch) (dC : Nat → ClassId) (dI : Nat → Nat → Nat) (h0 : Nat) (h1 : Nat) (p2 : Int32) (p3 : Int32) (v0_0 : Int32) (r0_1 : Nat) (r0_2 : Nat) (r0_3 : Nat) (r0_4 : Nat) (v0_5 : Int32) (r0_6 : Nat) (r0_7 : Nat) (r0_8 : Nat) (v1_0 : Int32) (v1_1 : Int32) (r1_2 : Nat) (r1_3 : Nat) (r1_4 : Nat) (r1_5 : Nat) (r1_6 : Nat) (r1_7 : Nat) (r1_8 : Nat) (r1_9 : Nat) (k2 : Nat) (f2 : Nat → Int32) (k3 : Nat) (f3 : Nat → Int32) (k4 : Nat) (f4 : Nat → Int64) (o : Int64) (hfn : fn_X8_whatOf p2 p3 v1_0 f2 f3 f4 = some o) (sz : Nat) : zMl l yX8_whatOf wsX8_whatOf ({ frames := 1, cells := 0, slots := 0, locals := 22 }) (dC, dI) vwCl [.ref h0, .ref h1, .int p2, .int p3] [zV9 h0 v0_0 r0_1 r0_2 r0_3 r0_4 v0_5 r0_6 r0_7 r0_8, zV4 r0_6 v1_0 v1_1 r1_2 r1_3 r1_4 r1_5 r1_6 r1_7 r1_8 r1_9, zVi r1_8 k2 28 f2, zVi r1_9 k3 28 f3, zVl h1 k4 14 f4] [(k2, .int), (k3, .int), (k4, .long)] (fun r _ => r = o) [zV9 h0 v0_0 r0_1 r0_2 r0_3 r0_4 v0_5 r0_6 r0_7 r0_8, zV4 r0_6 v1_0 v1_1 r1_2 r1_3 r1_4 r1_5 r1_6 r1_7 r1_8 r1_9, zVi r1_8 k2 28 f2, zVi r1_9 k3 28 f3, zVl h1 k4 14 f4] [(k2, .int), (k3, .int), (k4, .long)] sz := by
  refine zgol (cc := cX8_whatOf) (maxL := 5) (ret := (some .long)) (C0 := RX8) (lv0 := [(0, .ref h0), (1, .ref h1), (2, .int p2), (3, .int p3)]) zpl_X8 rfl rfl rfl (Nat.le_of_ble_eq_true rfl) ?_
  intro p e s m below meth c A ls Q hx hb hr hts hown hlocks hml hP hK hD hA hS hl hQ
  unfold fn_X8_whatOf at hfn
  refine lv_aload_n hx hb dX8_whatOf_0 rfl (lv_at hl 0 rfl) ?_
  refine va_get (D := (dC, dI)) (ci := 9) (v := .ref r0_6) (C := RX9) (T := TX9) (N := 9) hx hb hts zn_X8_whatOf_X9 hown hK hP 0 rfl rfl 6 (of_decide_eq_true rfl) (hts (.fieldLink RX8 18 "ShortEnough$Task" "numbers" "LShortEnough$Numbers;") zw_X8_whatOf_557) (fun _ h9 => h9) rfl dX8_whatOf_1 ?_
  refine lv_iload_n hx hb dX8_whatOf_4 rfl (lv_at hl 2 rfl) ?_
  refine lv_iload_n hx hb dX8_whatOf_5 rfl (lv_at hl 3 rfl) ?_
  obtain ⟨o_1, hqo_1, hfn⟩ := zb_s hfn
  refine zcVi (ci := 4) (rest := []) (pc' := 9) (ws' := [zV9 h0 v0_0 r0_1 r0_2 r0_3 r0_4 v0_5 r0_6 r0_7 r0_8, zV4 r0_6 v1_0 v1_1 r1_2 r1_3 r1_4 r1_5 r1_6 r1_7 r1_8 r1_9, zVi r1_8 k2 28 f2, zVi r1_9 k3 28 f3, zVl h1 k4 14 f4]) hP hK hD hS hA ⟨hx, hb, hml, hown, hts⟩ (zf_X4_madeOf l dC dI r0_6 p2 p3 v1_0 v1_1 r1_2 r1_3 r1_4 r1_5 r1_6 r1_7 r1_8 r1_9 k2 f2 o_1 hqo_1 s.heap.size) (cwV 2 hts gX8_whatOf_X4_madeOf rfl rfl rfl zhd_X4_madeOf ⟨Nat.le_of_ble_eq_true rfl, Nat.le_of_ble_eq_true rfl⟩) [1, 2] rfl (of_decide_eq_true rfl) [0] rfl rfl rfl rfl hl.1 rfl (Nat.le_of_ble_eq_true rfl) dX8_whatOf_6 ⟨Nat.le_of_ble_eq_true rfl, Nat.le_of_ble_eq_true rfl⟩ [none, some 0, some 1] (of_decide_eq_true rfl) (of_decide_eq_true rfl) rfl rfl rfl (fun H locs hP hD hS => ?_)
  refine lv_istore (lv' := [(4, .int o_1), (0, .ref h0), (1, .ref h1), (2, .int p2), (3, .int p3)]) hx hb dX8_whatOf_9 hl (of_decide_eq_true rfl) rfl (fun ls hl => ?_)
  refine lv_iload hx hb dX8_whatOf_11 (lv_at hl 0 rfl) ?_
  refine lv_if_lt (tgt := 29) hx hb dX8_whatOf_13 (of_decide_eq_true rfl) (fun c_5 => ?_) (fun c_5 => ?_)
  · have hfn := (if_pos c_5).symm.trans hfn
    refine lv_aload_n hx hb dX8_whatOf_29 rfl (lv_at hl 1 rfl) ?_
    refine va_get (D := (dC, dI)) (ci := 9) (v := .ref r0_6) (C := RX9) (T := TX9) (N := 9) hx hb hts zn_X8_whatOf_X9 hown hK hP 0 rfl rfl 6 (of_decide_eq_true rfl) (hts (.fieldLink RX8 18 "ShortEnough$Task" "numbers" "LShortEnough$Numbers;") zw_X8_whatOf_557) (fun _ h9 => h9) rfl dX8_whatOf_30 ?_
    refine lv_iload_n hx hb dX8_whatOf_33 rfl (lv_at hl 3 rfl) ?_
    refine lv_iload_n hx hb dX8_whatOf_34 rfl (lv_at hl 4 rfl) ?_
    obtain ⟨o_6, hqo_6, hfn⟩ := zb_s hfn
    refine zcVl (ci := 4) (rest := []) (pc' := 38) (ws' := [zV9 h0 v0_0 r0_1 r0_2 r0_3 r0_4 v0_5 r0_6 r0_7 r0_8, zV4 r0_6 v1_0 v1_1 r1_2 r1_3 r1_4 r1_5 r1_6 r1_7 r1_8 r1_9, zVi r1_8 k2 28 f2, zVi r1_9 k3 28 f3, zVl h1 k4 14 f4]) hP hK hD hS hA ⟨hx, hb, hml, hown, hts⟩ (zf_X4_amountOf l dC dI r0_6 p2 p3 v1_0 v1_1 r1_2 r1_3 r1_4 r1_5 r1_6 r1_7 r1_8 r1_9 k3 f3 o_6 hqo_6 H.size) (cwV 2 hts gX8_whatOf_X4_amountOf rfl rfl rfl zhd_X4_amountOf ⟨Nat.le_of_ble_eq_true rfl, Nat.le_of_ble_eq_true rfl⟩) [1, 3] rfl (of_decide_eq_true rfl) [1] rfl rfl rfl rfl hl.1 rfl (Nat.le_of_ble_eq_true rfl) dX8_whatOf_35 ⟨Nat.le_of_ble_eq_true rfl, Nat.le_of_ble_eq_true rfl⟩ [none, some 0, none, some 1] (of_decide_eq_true rfl) (of_decide_eq_true rfl) rfl rfl rfl (fun H locs hP hD hS => ?_)
    have ho := Option.some.inj hfn
    subst ho
    exact zrl hx hb hr hK hP hD hS hQ rfl hlocks dX8_whatOf_38
  have hfn := (if_neg c_5).symm.trans hfn
  refine lv_iload hx hb dX8_whatOf_16 (lv_at hl 0 rfl) ?_
  refine lv_iload_n hx hb dX8_whatOf_18 rfl (lv_at hl 3 rfl) ?_
  refine lv_icmp_ge (tgt := 29) hx hb dX8_whatOf_19 (of_decide_eq_true rfl) (fun c_10 => ?_) (fun c_10 => ?_)
  · have hfn := (if_pos c_10).symm.trans hfn
    refine lv_aload_n hx hb dX8_whatOf_29 rfl (lv_at hl 1 rfl) ?_
    refine va_get (D := (dC, dI)) (ci := 9) (v := .ref r0_6) (C := RX9) (T := TX9) (N := 9) hx hb hts zn_X8_whatOf_X9 hown hK hP 0 rfl rfl 6 (of_decide_eq_true rfl) (hts (.fieldLink RX8 18 "ShortEnough$Task" "numbers" "LShortEnough$Numbers;") zw_X8_whatOf_557) (fun _ h9 => h9) rfl dX8_whatOf_30 ?_
    refine lv_iload_n hx hb dX8_whatOf_33 rfl (lv_at hl 3 rfl) ?_
    refine lv_iload_n hx hb dX8_whatOf_34 rfl (lv_at hl 4 rfl) ?_
    obtain ⟨o_11, hqo_11, hfn⟩ := zb_s hfn
    refine zcVl (ci := 4) (rest := []) (pc' := 38) (ws' := [zV9 h0 v0_0 r0_1 r0_2 r0_3 r0_4 v0_5 r0_6 r0_7 r0_8, zV4 r0_6 v1_0 v1_1 r1_2 r1_3 r1_4 r1_5 r1_6 r1_7 r1_8 r1_9, zVi r1_8 k2 28 f2, zVi r1_9 k3 28 f3, zVl h1 k4 14 f4]) hP hK hD hS hA ⟨hx, hb, hml, hown, hts⟩ (zf_X4_amountOf l dC dI r0_6 p2 p3 v1_0 v1_1 r1_2 r1_3 r1_4 r1_5 r1_6 r1_7 r1_8 r1_9 k3 f3 o_11 hqo_11 H.size) (cwV 2 hts gX8_whatOf_X4_amountOf rfl rfl rfl zhd_X4_amountOf ⟨Nat.le_of_ble_eq_true rfl, Nat.le_of_ble_eq_true rfl⟩) [1, 3] rfl (of_decide_eq_true rfl) [1] rfl rfl rfl rfl hl.1 rfl (Nat.le_of_ble_eq_true rfl) dX8_whatOf_35 ⟨Nat.le_of_ble_eq_true rfl, Nat.le_of_ble_eq_true rfl⟩ [none, some 0, none, some 1] (of_decide_eq_true rfl) (of_decide_eq_true rfl) rfl rfl rfl (fun H locs hP hD hS => ?_)
    have ho := Option.some.inj hfn
    subst ho
    exact zrl hx hb hr hK hP hD hS hQ rfl hlocks dX8_whatOf_38
  have hfn := (if_neg c_10).symm.trans hfn
  refine lv_aload_n hx hb dX8_whatOf_22 rfl (lv_at hl 2 rfl) ?_
  refine lv_iload hx hb dX8_whatOf_23 (lv_at hl 0 rfl) ?_
  obtain ⟨h_15, hfn⟩ := zg_s hfn
  refine va_lald hx hb hK hP 4 2 rfl rfl h_15 dX8_whatOf_25 ?_
  refine lv_goto (tgt := 38) hx hb dX8_whatOf_26 (of_decide_eq_true rfl) ?_
  have ho := Option.some.inj hfn
  subst ho
  exact zrl hx hb hr hK hP hD hS hQ rfl hlocks dX8_whatOf_38
theorem zn_X8_sample_X9 : ∀ w ∈ wsX90, w ∈ wsX8_sample := fun _ h => List.mem_cons_of_mem _ (List.mem_append_left _ (List.mem_append_left _ (List.mem_append_left _ (List.mem_append_right _ h))))
theorem zw_X8_sample_550 : Cond.fieldLink RX8 18 "ShortEnough$Task" "numbers" "LShortEnough$Numbers;" ∈ wsX8_sample := List.mem_of_getElem? (i := 1) (by decide +kernel)
theorem zn_X8_sample_X4 : ∀ w ∈ wsX40, w ∈ wsX8_sample := fun _ h => List.mem_cons_of_mem _ (List.mem_append_left _ (List.mem_append_left _ (List.mem_append_right _ h)))
theorem zw_X8_sample_552 : Cond.fieldLink RX8 24 "ShortEnough$Numbers" "count" "I" ∈ wsX8_sample := List.mem_of_getElem? (i := 2) (by decide +kernel)
theorem zw_X8_sample_553 : Cond.fieldLink RX8 38 "ShortEnough$Numbers" "op" "[I" ∈ wsX8_sample := List.mem_of_getElem? (i := 3) (by decide +kernel)
theorem zn_X8_sample_X8 : ∀ w ∈ wsX80, w ∈ wsX8_sample := fun _ h => List.mem_cons_of_mem _ (List.mem_append_left _ (List.mem_append_right _ h))
theorem zw_X8_sample_555 : Cond.fieldLink RX8 9 "ShortEnough$Sampler" "exact" "[J" ∈ wsX8_sample := List.mem_of_getElem? (i := 7) (by decide +kernel)
theorem zw_X8_sample_558 : Cond.initialized RX11 ∈ wsX8_sample := List.mem_of_getElem? (i := 32) (by decide +kernel)
theorem zw_X8_sample_559 : Cond.static yX11_apply ∈ wsX8_sample := List.mem_of_getElem? (i := 48) (by decide +kernel)
theorem zw_X8_sample_560 : Cond.fieldLink RX8 15 "ShortEnough$Sampler" "kept" "[J" ∈ wsX8_sample := List.mem_of_getElem? (i := 8) (by decide +kernel)
theorem zw_X8_sample_561 : Cond.static yX11_nearest ∈ wsX8_sample := List.mem_of_getElem? (i := 31) (by decide +kernel)
theorem zw_X8_sample_562 : Cond.constantLong RX8 42 (1103515245) ∈ wsX8_sample := List.mem_of_getElem? (i := 4) (by decide +kernel)
theorem zw_X8_sample_563 : Cond.constantLong RX8 44 (12345) ∈ wsX8_sample := List.mem_of_getElem? (i := 5) (by decide +kernel)
theorem zw_X8_sample_564 : Cond.constantLong RX8 46 (2147483648) ∈ wsX8_sample := List.mem_of_getElem? (i := 6) (by decide +kernel)
set_option maxHeartbeats 4000000 in
set_option maxRecDepth 100000 in
theorem zf_X8_sample (l : Launch) (dC : Nat → ClassId) (dI : Nat → Nat → Nat) (h0 : Nat) (h1 : Nat) (h2 : Nat) (p3 : Int32) (r0_0 : Nat) (r0_1 : Nat) (v1_0 : Int32) (r1_1 : Nat) (r1_2 : Nat) (r1_3 : Nat) (r1_4 : Nat) (v1_5 : Int32) (r1_6 : Nat) (r1_7 : Nat) (r1_8 : Nat) (v2_0 : Int32) (v2_1 : Int32) (r2_2 : Nat) (r2_3 : Nat) (r2_4 : Nat) (r2_5 : Nat) (r2_6 : Nat) (r2_7 : Nat) (r2_8 : Nat) (r2_9 : Nat) (v3_0 : Int32) (v3_1 : Int32) (v3_2 : Int32) (r3_3 : Nat) (r3_4 : Nat) (r3_5 : Nat) (k4 : Nat) (f4 : Nat → Int32) (k5 : Nat) (f5 : Nat → Int32) (k6 : Nat) (f6 : Nat → Int32) (k7 : Nat) (f7 : Nat → Int32) (k8 : Nat) (f8 : Nat → Int32) (k9 : Nat) (f9 : Nat → Int32) (k10 : Nat) (f10 : Nat → Int64) (k11 : Nat) (f11 : Nat → Int64) (o : Int32 × (Nat → Int64) × (Nat → Int64)) (hfn : fn_X8_sample p3 v1_0 v2_0 f4 f5 f6 f7 f8 f9 f10 f11 = some o) (sz : Nat) : zNi [(RX8, 60, yX11_apply, RX11), (RX8, 52, yX11_nearest, RX11)] l yX8_sample wsX8_sample ({ frames := 3, cells := 0, slots := 0, locals := 78 }) (dC, dI) vwCl [.ref h0, .ref h1, .ref h2, .int p3] [zV8 h0 r0_0 r0_1, zV9 h1 v1_0 r1_1 r1_2 r1_3 r1_4 v1_5 r1_6 r1_7 r1_8, zV4 r1_6 v2_0 v2_1 r2_2 r2_3 r2_4 r2_5 r2_6 r2_7 r2_8 r2_9, zV2 r1_7 v3_0 v3_1 v3_2 r3_3 r3_4 r3_5, zVi r3_3 k4 14 f4, zVi h2 k5 14 f5, zVi r1_2 k6 4 f6, zVi r2_3 k7 14 f7, zVi r2_8 k8 28 f8, zVi r2_9 k9 28 f9, zVl r0_0 k10 14 f10, zVl r0_1 k11 14 f11] [(k4, .int), (k5, .int), (k6, .int), (k7, .int), (k8, .int), (k9, .int), (k10, .long), (k11, .long)] (fun r _ => r = o.1) [zV8 h0 r0_0 r0_1, zV9 h1 v1_0 r1_1 r1_2 r1_3 r1_4 v1_5 r1_6 r1_7 r1_8, zV4 r1_6 v2_0 v2_1 r2_2 r2_3 r2_4 r2_5 r2_6 r2_7 r2_8 r2_9, zV2 r1_7 v3_0 v3_1 v3_2 r3_3 r3_4 r3_5, zVi r3_3 k4 14 f4, zVi h2 k5 14 f5, zVi r1_2 k6 4 f6, zVi r2_3 k7 14 f7, zVi r2_8 k8 28 f8, zVi r2_9 k9 28 f9, zVl r0_0 k10 14 o.2.1, zVl r0_1 k11 14 o.2.2] [(k4, .int), (k5, .int), (k6, .int), (k7, .int), (k8, .int), (k9, .int), (k10, .long), (k11, .long)] sz := by
  refine zgoNi (cc := cX8_sample) (maxL := 13) (ret := (some .int)) (C0 := RX8) (lv0 := [(0, .ref h0), (1, .ref h1), (2, .ref h2), (3, .int p3)]) zpl_X8 rfl rfl rfl (Nat.le_of_ble_eq_true rfl) ?_
  intro p e s m below meth c A ls Q hN hx hb hr hts hown hlocks hml hP hK hD hA hS hl hQ
  have hn0 : va_Nw (.methodLinkNest RX8 60 yX11_apply RX11) s := hN.1
  have hn1 : va_Nw (.methodLinkNest RX8 52 yX11_nearest RX11) s := hN.2.1
  unfold fn_X8_sample at hfn
  refine lv_iload_n hx hb dX8_sample_0 rfl (lv_at hl 3 rfl) ?_
  refine lv_i2l (v := p3.toInt64) hx hb dX8_sample_1 rfl ?_
  refine lv_lstore (lv' := [(4, .long p3.toInt64), (0, .ref h0), (1, .ref h1), (2, .ref h2), (3, .int p3)]) hx hb dX8_sample_2 hl (of_decide_eq_true rfl) rfl (fun ls hl => ?_)
  refine lv_iconst (v := 0) hx hb dX8_sample_4 zci_0 ?_
  refine lv_istore (lv' := [(6, .int 0), (4, .long p3.toInt64), (0, .ref h0), (1, .ref h1), (2, .ref h2), (3, .int p3)]) hx hb dX8_sample_5 hl (of_decide_eq_true rfl) rfl (fun ls hl => ?_)
  obtain ⟨bd_1, ebd_1, hfn⟩ := zl_g hfn
  have lp_1 : ∀ (n : Nat) (s_1 : Int64 × Int32 × (Nat → Int64) × (Nat → Int64)) (H : Heap) (locs : List Loc) (ls : Array Slot), zl bd_1 n s_1 = some o → va_P (dC, dI) vwCl [zV8 h0 r0_0 r0_1, zV9 h1 v1_0 r1_1 r1_2 r1_3 r1_4 v1_5 r1_6 r1_7 r1_8, zV4 r1_6 v2_0 v2_1 r2_2 r2_3 r2_4 r2_5 r2_6 r2_7 r2_8 r2_9, zV2 r1_7 v3_0 v3_1 v3_2 r3_3 r3_4 r3_5, zVi r3_3 k4 14 f4, zVi h2 k5 14 f5, zVi r1_2 k6 4 f6, zVi r2_3 k7 14 f7, zVi r2_8 k8 28 f8, zVi r2_9 k9 28 f9, zVl r0_0 k10 14 s_1.2.2.1, zVl r0_1 k11 14 s_1.2.2.2] H → va_D A [zV8 h0 r0_0 r0_1, zV9 h1 v1_0 r1_1 r1_2 r1_3 r1_4 v1_5 r1_6 r1_7 r1_8, zV4 r1_6 v2_0 v2_1 r2_2 r2_3 r2_4 r2_5 r2_6 r2_7 r2_8 r2_9, zV2 r1_7 v3_0 v3_1 v3_2 r3_3 r3_4 r3_5, zVi r3_3 k4 14 f4, zVi h2 k5 14 f5, zVi r1_2 k6 4 f6, zVi r2_3 k7 14 f7, zVi r2_8 k8 28 f8, zVi r2_9 k9 28 f9, zVl r0_0 k10 14 s_1.2.2.1, zVl r0_1 k11 14 s_1.2.2.2] → va_S A s.heap H locs → lv_has ls 13 [(6, .int s_1.2.1), (4, .long s_1.1), (0, .ref h0), (1, .ref h1), (2, .ref h2)] → W p l e (headSpec wsX8_sample ({ frames := 3, cells := 0, slots := 0, locals := 78 })).room s m ([.ref h0, .ref h1, .ref h2, .int p3] : List Value).toArray below meth c H locs 0 0 Q (F0 m 7 ls []) := by
    intro n
    induction n with
    | zero => exact fun _ _ _ _ hfn => (zl_0 hfn).elim
    | succ n ih_1 =>
      intro s_1 H locs ls hfn hP hD hS hl
      have hfn := zl_s ebd_1 hfn
      refine lv_iload hx hb dX8_sample_7 (lv_at hl 0 rfl) ?_
      refine lv_aload_n hx hb dX8_sample_9 rfl (lv_at hl 3 rfl) ?_
      refine va_get (D := (dC, dI)) (ci := 9) (v := .ref r1_6) (C := RX9) (T := TX9) (N := 9) hx hb hts zn_X8_sample_X9 hown hK hP 1 rfl rfl 6 (of_decide_eq_true rfl) (hts (.fieldLink RX8 18 "ShortEnough$Task" "numbers" "LShortEnough$Numbers;") zw_X8_sample_550) (fun _ h9 => h9) rfl dX8_sample_10 ?_
      refine va_get (D := (dC, dI)) (ci := 4) (v := .int v2_0) (C := RX4) (T := TX4) (N := 10) hx hb hts zn_X8_sample_X4 hown hK hP 2 rfl rfl 0 (of_decide_eq_true rfl) (hts (.fieldLink RX8 24 "ShortEnough$Numbers" "count" "I") zw_X8_sample_552) (fun _ h9 => h9) rfl dX8_sample_13 ?_
      refine lv_icmp_ge (tgt := 237) hx hb dX8_sample_16 (of_decide_eq_true rfl) (fun c_2 => ?_) (fun c_2 => ?_)
      · have hfn := (if_pos c_2).symm.trans hfn
        refine lv_lload hx hb dX8_sample_237 (lv_at hl 1 rfl) ?_
        refine lv_l2i (v := s_1.1.toInt32) hx hb dX8_sample_239 rfl ?_
        have ho := Option.some.inj hfn
        subst ho
        exact zri hx hb hr hK hP hD hS hQ rfl hlocks dX8_sample_240
      have hfn := (if_neg c_2).symm.trans hfn
      refine lv_aload_n hx hb dX8_sample_19 rfl (lv_at hl 3 rfl) ?_
      refine lv_aload_n hx hb dX8_sample_20 rfl (lv_at hl 3 rfl) ?_
      refine lv_aload_n hx hb dX8_sample_21 rfl (lv_at hl 4 rfl) ?_
      refine lv_iload hx hb dX8_sample_22 (lv_at hl 0 rfl) ?_
      obtain ⟨o_3, hqo_3, hfn⟩ := zb_s hfn
      refine zcVi (ci := 9) (rest := [.ref h1]) (pc' := 27) (ws' := [zV8 h0 r0_0 r0_1, zV9 h1 v1_0 r1_1 r1_2 r1_3 r1_4 v1_5 r1_6 r1_7 r1_8, zV4 r1_6 v2_0 v2_1 r2_2 r2_3 r2_4 r2_5 r2_6 r2_7 r2_8 r2_9, zV2 r1_7 v3_0 v3_1 v3_2 r3_3 r3_4 r3_5, zVi r3_3 k4 14 f4, zVi h2 k5 14 f5, zVi r1_2 k6 4 f6, zVi r2_3 k7 14 f7, zVi r2_8 k8 28 f8, zVi r2_9 k9 28 f9, zVl r0_0 k10 14 s_1.2.2.1, zVl r0_1 k11 14 s_1.2.2.2]) hP hK hD hS hA ⟨hx, hb, hml, hown, hts⟩ (zf_X9_formatOf l dC dI h1 h2 s_1.2.1 v1_0 r1_1 r1_2 r1_3 r1_4 v1_5 r1_6 r1_7 r1_8 v2_0 v2_1 r2_2 r2_3 r2_4 r2_5 r2_6 r2_7 r2_8 r2_9 v3_0 v3_1 v3_2 r3_3 r3_4 r3_5 k4 f4 k5 f5 o_3 hqo_3 H.size) (cwV 2 hts gX8_sample_X9_formatOf rfl rfl rfl zhd_X9_formatOf ⟨Nat.le_of_ble_eq_true rfl, Nat.le_of_ble_eq_true rfl⟩) [1, 2, 3, 4, 5] rfl (of_decide_eq_true rfl) [0, 1] rfl rfl rfl rfl hl.1 rfl (Nat.le_of_ble_eq_true rfl) dX8_sample_24 ⟨Nat.le_of_ble_eq_true rfl, Nat.le_of_ble_eq_true rfl⟩ [none, some 0, some 1, some 2, some 3, some 4] (of_decide_eq_true rfl) (of_decide_eq_true rfl) rfl rfl rfl (fun H locs hP hD hS => ?_)
      obtain ⟨o_7, hqo_7, hfn⟩ := zb_s hfn
      refine zcVi (ci := 9) (rest := []) (pc' := 30) (ws' := [zV8 h0 r0_0 r0_1, zV9 h1 v1_0 r1_1 r1_2 r1_3 r1_4 v1_5 r1_6 r1_7 r1_8, zV4 r1_6 v2_0 v2_1 r2_2 r2_3 r2_4 r2_5 r2_6 r2_7 r2_8 r2_9, zV2 r1_7 v3_0 v3_1 v3_2 r3_3 r3_4 r3_5, zVi r3_3 k4 14 f4, zVi h2 k5 14 f5, zVi r1_2 k6 4 f6, zVi r2_3 k7 14 f7, zVi r2_8 k8 28 f8, zVi r2_9 k9 28 f9, zVl r0_0 k10 14 s_1.2.2.1, zVl r0_1 k11 14 s_1.2.2.2]) hP hK hD hS hA ⟨hx, hb, hml, hown, hts⟩ (zf_X9_stepOf l dC dI h1 o_3 v1_0 r1_1 r1_2 r1_3 r1_4 v1_5 r1_6 r1_7 r1_8 k6 f6 o_7 hqo_7 H.size) (cwV 1 hts gX8_sample_X9_stepOf rfl rfl rfl zhd_X9_stepOf ⟨Nat.le_of_ble_eq_true rfl, Nat.le_of_ble_eq_true rfl⟩) [1, 6] rfl (of_decide_eq_true rfl) [2] rfl rfl rfl rfl hl.1 rfl (Nat.le_of_ble_eq_true rfl) dX8_sample_27 ⟨Nat.le_of_ble_eq_true rfl, Nat.le_of_ble_eq_true rfl⟩ [none, some 0, none, none, none, none, some 1] (of_decide_eq_true rfl) (of_decide_eq_true rfl) rfl rfl rfl (fun H locs hP hD hS => ?_)
      refine lv_istore (lv' := [(7, .int o_7), (6, .int s_1.2.1), (4, .long s_1.1), (0, .ref h0), (1, .ref h1), (2, .ref h2)]) hx hb dX8_sample_30 hl (of_decide_eq_true rfl) rfl (fun ls hl => ?_)
      refine lv_aload_n hx hb dX8_sample_32 rfl (lv_at hl 4 rfl) ?_
      refine va_get (D := (dC, dI)) (ci := 9) (v := .ref r1_6) (C := RX9) (T := TX9) (N := 9) hx hb hts zn_X8_sample_X9 hown hK hP 1 rfl rfl 6 (of_decide_eq_true rfl) (hts (.fieldLink RX8 18 "ShortEnough$Task" "numbers" "LShortEnough$Numbers;") zw_X8_sample_550) (fun _ h9 => h9) rfl dX8_sample_33 ?_
      refine va_get (D := (dC, dI)) (ci := 4) (v := .ref r2_3) (C := RX4) (T := TX4) (N := 10) hx hb hts zn_X8_sample_X4 hown hK hP 2 rfl rfl 3 (of_decide_eq_true rfl) (hts (.fieldLink RX8 38 "ShortEnough$Numbers" "op" "[I") zw_X8_sample_553) (fun _ h9 => h9) rfl dX8_sample_36 ?_
      refine lv_iload hx hb dX8_sample_39 (lv_at hl 1 rfl) ?_
      obtain ⟨h_11, hfn⟩ := zg_s hfn
      refine va_iald hx hb hK hP 7 3 rfl rfl h_11 dX8_sample_41 ?_
      refine lv_istore (lv' := [(8, .int (f7 s_1.2.1.toNatClampNeg)), (7, .int o_7), (6, .int s_1.2.1), (4, .long s_1.1), (0, .ref h0), (1, .ref h1), (2, .ref h2)]) hx hb dX8_sample_42 hl (of_decide_eq_true rfl) rfl (fun ls hl => ?_)
      refine lv_iload hx hb dX8_sample_44 (lv_at hl 0 rfl) ?_
      refine lv_if_ne (tgt := 137) hx hb dX8_sample_46 (of_decide_eq_true rfl) (fun c_12 => ?_) (fun c_12 => ?_)
      · have hfn := (if_neg c_12).symm.trans hfn
        refine lv_aload_n hx hb dX8_sample_137 rfl (lv_at hl 4 rfl) ?_
        refine va_get (D := (dC, dI)) (ci := 8) (v := .ref r0_0) (C := RX8) (T := TX8) (N := 2) hx hb hts zn_X8_sample_X8 hown hK hP 0 rfl rfl 0 (of_decide_eq_true rfl) (hts (.fieldLink RX8 9 "ShortEnough$Sampler" "exact" "[J") zw_X8_sample_555) (fun _ h9 => h9) rfl dX8_sample_138 ?_
        refine lv_iload hx hb dX8_sample_141 (lv_at hl 2 rfl) ?_
        refine lv_iload hx hb dX8_sample_143 (lv_at hl 0 rfl) ?_
        refine lv_aload_n hx hb dX8_sample_145 rfl (lv_at hl 5 rfl) ?_
        refine lv_aload_n hx hb dX8_sample_146 rfl (lv_at hl 4 rfl) ?_
        refine va_get (D := (dC, dI)) (ci := 8) (v := .ref r0_0) (C := RX8) (T := TX8) (N := 2) hx hb hts zn_X8_sample_X8 hown hK hP 0 rfl rfl 0 (of_decide_eq_true rfl) (hts (.fieldLink RX8 9 "ShortEnough$Sampler" "exact" "[J") zw_X8_sample_555) (fun _ h9 => h9) rfl dX8_sample_147 ?_
        refine lv_iload hx hb dX8_sample_150 (lv_at hl 2 rfl) ?_
        refine lv_iconst (v := 0) hx hb dX8_sample_152 zci_0 ?_
        obtain ⟨o_13, hqo_13, hfn⟩ := zb_s hfn
        refine zcSl (rest := [.int (f7 s_1.2.1.toNatClampNeg), .int s_1.2.1, .ref r0_0]) (pc' := 156) (ws' := [zV8 h0 r0_0 r0_1, zV9 h1 v1_0 r1_1 r1_2 r1_3 r1_4 v1_5 r1_6 r1_7 r1_8, zV4 r1_6 v2_0 v2_1 r2_2 r2_3 r2_4 r2_5 r2_6 r2_7 r2_8 r2_9, zV2 r1_7 v3_0 v3_1 v3_2 r3_3 r3_4 r3_5, zVi r3_3 k4 14 f4, zVi h2 k5 14 f5, zVi r1_2 k6 4 f6, zVi r2_3 k7 14 f7, zVi r2_8 k8 28 f8, zVi r2_9 k9 28 f9, zVl r0_0 k10 14 s_1.2.2.1, zVl r0_1 k11 14 s_1.2.2.2]) hP hK hD hS hA ⟨hx, hb, hml, hown, hts⟩ (zf_X8_whatOf l dC dI h1 r0_0 s_1.2.1 0 v1_0 r1_1 r1_2 r1_3 r1_4 v1_5 r1_6 r1_7 r1_8 v2_0 v2_1 r2_2 r2_3 r2_4 r2_5 r2_6 r2_7 r2_8 r2_9 k8 f8 k9 f9 k10 s_1.2.2.1 o_13 hqo_13 H.size) (va_cwS 4 hts gX8_sample_X8_whatOf rfl rfl rfl zhd_X8_whatOf.2 ⟨Nat.le_of_ble_eq_true rfl, Nat.le_of_ble_eq_true rfl⟩) [1, 2, 8, 9, 10] rfl (of_decide_eq_true rfl) [4, 5, 6] rfl rfl hl.1 rfl (Nat.le_of_ble_eq_true rfl) dX8_sample_153 ⟨Nat.le_of_ble_eq_true rfl, Nat.le_of_ble_eq_true rfl⟩ [none, some 0, some 1, none, none, none, none, none, some 2, some 3, some 4] (of_decide_eq_true rfl) (of_decide_eq_true rfl) rfl rfl rfl (fun H locs hP hD hS => ?_)
        refine lv_aload_n hx hb dX8_sample_156 rfl (lv_at hl 5 rfl) ?_
        refine lv_aload_n hx hb dX8_sample_157 rfl (lv_at hl 4 rfl) ?_
        refine va_get (D := (dC, dI)) (ci := 8) (v := .ref r0_0) (C := RX8) (T := TX8) (N := 2) hx hb hts zn_X8_sample_X8 hown hK hP 0 rfl rfl 0 (of_decide_eq_true rfl) (hts (.fieldLink RX8 9 "ShortEnough$Sampler" "exact" "[J") zw_X8_sample_555) (fun _ h9 => h9) rfl dX8_sample_158 ?_
        refine lv_iload hx hb dX8_sample_161 (lv_at hl 2 rfl) ?_
        refine lv_iconst (v := 1) hx hb dX8_sample_163 zci_1 ?_
        obtain ⟨o_17, hqo_17, hfn⟩ := zb_s hfn
        refine zcSl (rest := [.long o_13, .int (f7 s_1.2.1.toNatClampNeg), .int s_1.2.1, .ref r0_0]) (pc' := 167) (ws' := [zV8 h0 r0_0 r0_1, zV9 h1 v1_0 r1_1 r1_2 r1_3 r1_4 v1_5 r1_6 r1_7 r1_8, zV4 r1_6 v2_0 v2_1 r2_2 r2_3 r2_4 r2_5 r2_6 r2_7 r2_8 r2_9, zV2 r1_7 v3_0 v3_1 v3_2 r3_3 r3_4 r3_5, zVi r3_3 k4 14 f4, zVi h2 k5 14 f5, zVi r1_2 k6 4 f6, zVi r2_3 k7 14 f7, zVi r2_8 k8 28 f8, zVi r2_9 k9 28 f9, zVl r0_0 k10 14 s_1.2.2.1, zVl r0_1 k11 14 s_1.2.2.2]) hP hK hD hS hA ⟨hx, hb, hml, hown, hts⟩ (zf_X8_whatOf l dC dI h1 r0_0 s_1.2.1 1 v1_0 r1_1 r1_2 r1_3 r1_4 v1_5 r1_6 r1_7 r1_8 v2_0 v2_1 r2_2 r2_3 r2_4 r2_5 r2_6 r2_7 r2_8 r2_9 k8 f8 k9 f9 k10 s_1.2.2.1 o_17 hqo_17 H.size) (va_cwS 4 hts gX8_sample_X8_whatOf rfl rfl rfl zhd_X8_whatOf.2 ⟨Nat.le_of_ble_eq_true rfl, Nat.le_of_ble_eq_true rfl⟩) [1, 2, 8, 9, 10] rfl (of_decide_eq_true rfl) [4, 5, 6] rfl rfl hl.1 rfl (Nat.le_of_ble_eq_true rfl) dX8_sample_164 ⟨Nat.le_of_ble_eq_true rfl, Nat.le_of_ble_eq_true rfl⟩ [none, some 0, some 1, none, none, none, none, none, some 2, some 3, some 4] (of_decide_eq_true rfl) (of_decide_eq_true rfl) rfl rfl rfl (fun H locs hP hD hS => ?_)
        refine lv_lconst (v := 1) hx hb dX8_sample_167 (by decide +kernel) ?_
        obtain ⟨o_21, hqo_21, hfn⟩ := zb_s hfn
        have hC := zC hP [] (wc := []) rfl
        have hPc := hP.sub [] (zfm hC)
        have hDc := hD.sub [] (of_decide_eq_true rfl) hC
        have hKc := hK.sub (tys' := []) [] rfl
        have hFc := va_free hD hS hA [] hC
        refine va_calll (va_runSN (As := [.int (f7 s_1.2.1.toNatClampNeg), .long o_13, .long o_17, .long 1]) (rest := [.int s_1.2.1, .ref r0_0]) ⟨hx, hb, hml, hown, hts⟩ (zf_X11_apply l dC dI (f7 s_1.2.1.toNatClampNeg) o_13 o_17 (1 : Int64) o_21 hqo_21 H.size) ⟨va_cnB (host := RX11) 4 hts gX8_sample_X11_apply_n60 rfl rfl rfl hn0 (hts (.initialized RX11) zw_X8_sample_558) (by decide +kernel) ⟨Nat.le_of_ble_eq_true rfl, Nat.le_of_ble_eq_true rfl⟩, (hts (.static yX11_apply) zw_X8_sample_559), trivial⟩ ⟨fun a U g mk q => by obtain ⟨q0, q1, qP, qK, qD⟩ := q; exact ⟨q0, q1, qP, va_K.moved (u := U) (U := U.calling g mk a) (Vm.Alike.refl U.vm) qK, qD⟩, fun U hU hW => ⟨rfl, by rw [hU], by rw [hU]; exact hPc, va_K.moved hW.alike hKc, hDc.weaken (fun _ _ _ _ => trivial)⟩⟩ rfl rfl hl.1 rfl (lv_room (Nat.le_of_ble_eq_true rfl)) dX8_sample_168 ⟨Nat.le_of_ble_eq_true rfl, Nat.le_of_ble_eq_true rfl⟩) hS (fun q _ h => hFc q h) hFc (fun r_22 u_23 t H1 locs ht hvm hw_24 hB hz1 hk1 hS => ?_)
        obtain ⟨hP1, hK1, hD1⟩ := hB
        rw [ht] at hP1
        have hK1 := va_K.moved hvm.symm hK1
        obtain ⟨hP, hD⟩ := zjn (ws' := [zV8 h0 r0_0 r0_1, zV9 h1 v1_0 r1_1 r1_2 r1_3 r1_4 v1_5 r1_6 r1_7 r1_8, zV4 r1_6 v2_0 v2_1 r2_2 r2_3 r2_4 r2_5 r2_6 r2_7 r2_8 r2_9, zV2 r1_7 v3_0 v3_1 v3_2 r3_3 r3_4 r3_5, zVi r3_3 k4 14 f4, zVi h2 k5 14 f5, zVi r1_2 k6 4 f6, zVi r2_3 k7 14 f7, zVi r2_8 k8 28 f8, zVi r2_9 k9 28 f9, zVl r0_0 k10 14 s_1.2.2.1, zVl r0_1 k11 14 s_1.2.2.2]) hP hD [] hC hk1 hFc hP1 hD1 [] (of_decide_eq_true rfl) (of_decide_eq_true rfl) rfl rfl
        generalize H1 = H at hP hS ⊢
        refine W.eq (g2 := F0 m 171 ls [.long o_21, .int s_1.2.1, .ref r0_0]) (by rw [hw_24]) ?_
        refine va_last hx hb hK hP hD hS 10 6 rfl rfl h_11 dX8_sample_171 (fun H locs hP hD hS => ?_)
        have hP : va_P (dC, dI) vwCl [zV8 h0 r0_0 r0_1, zV9 h1 v1_0 r1_1 r1_2 r1_3 r1_4 v1_5 r1_6 r1_7 r1_8, zV4 r1_6 v2_0 v2_1 r2_2 r2_3 r2_4 r2_5 r2_6 r2_7 r2_8 r2_9, zV2 r1_7 v3_0 v3_1 v3_2 r3_3 r3_4 r3_5, zVi r3_3 k4 14 f4, zVi h2 k5 14 f5, zVi r1_2 k6 4 f6, zVi r2_3 k7 14 f7, zVi r2_8 k8 28 f8, zVi r2_9 k9 28 f9, zVl r0_0 k10 14 (vp_updL s_1.2.2.1 s_1.2.1.toNatClampNeg o_21), zVl r0_1 k11 14 s_1.2.2.2] H := hP
        have hD := zDW hD hP rfl
        refine lv_aload_n hx hb dX8_sample_172 rfl (lv_at hl 5 rfl) ?_
        refine lv_aload_n hx hb dX8_sample_173 rfl (lv_at hl 4 rfl) ?_
        refine va_get (D := (dC, dI)) (ci := 8) (v := .ref r0_1) (C := RX8) (T := TX8) (N := 2) hx hb hts zn_X8_sample_X8 hown hK hP 0 rfl rfl 1 (of_decide_eq_true rfl) (hts (.fieldLink RX8 15 "ShortEnough$Sampler" "kept" "[J") zw_X8_sample_560) (fun _ h9 => h9) rfl dX8_sample_174 ?_
        refine lv_iload hx hb dX8_sample_177 (lv_at hl 2 rfl) ?_
        refine lv_iconst (v := 0) hx hb dX8_sample_179 zci_0 ?_
        obtain ⟨o_25, hqo_25, hfn⟩ := zb_s hfn
        refine zcSl (rest := []) (pc' := 183) (ws' := [zV8 h0 r0_0 r0_1, zV9 h1 v1_0 r1_1 r1_2 r1_3 r1_4 v1_5 r1_6 r1_7 r1_8, zV4 r1_6 v2_0 v2_1 r2_2 r2_3 r2_4 r2_5 r2_6 r2_7 r2_8 r2_9, zV2 r1_7 v3_0 v3_1 v3_2 r3_3 r3_4 r3_5, zVi r3_3 k4 14 f4, zVi h2 k5 14 f5, zVi r1_2 k6 4 f6, zVi r2_3 k7 14 f7, zVi r2_8 k8 28 f8, zVi r2_9 k9 28 f9, zVl r0_0 k10 14 (vp_updL s_1.2.2.1 s_1.2.1.toNatClampNeg o_21), zVl r0_1 k11 14 s_1.2.2.2]) hP hK hD hS hA ⟨hx, hb, hml, hown, hts⟩ (zf_X8_whatOf l dC dI h1 r0_1 s_1.2.1 0 v1_0 r1_1 r1_2 r1_3 r1_4 v1_5 r1_6 r1_7 r1_8 v2_0 v2_1 r2_2 r2_3 r2_4 r2_5 r2_6 r2_7 r2_8 r2_9 k8 f8 k9 f9 k11 s_1.2.2.2 o_25 hqo_25 H.size) (va_cwS 4 hts gX8_sample_X8_whatOf rfl rfl rfl zhd_X8_whatOf.2 ⟨Nat.le_of_ble_eq_true rfl, Nat.le_of_ble_eq_true rfl⟩) [1, 2, 8, 9, 11] rfl (of_decide_eq_true rfl) [4, 5, 7] rfl rfl hl.1 rfl (Nat.le_of_ble_eq_true rfl) dX8_sample_180 ⟨Nat.le_of_ble_eq_true rfl, Nat.le_of_ble_eq_true rfl⟩ [none, some 0, some 1, none, none, none, none, none, some 2, some 3, none, some 4] (of_decide_eq_true rfl) (of_decide_eq_true rfl) rfl rfl rfl (fun H locs hP hD hS => ?_)
        refine lv_lconst (v := 1) hx hb dX8_sample_183 (by decide +kernel) ?_
        refine lv_iload hx hb dX8_sample_184 (lv_at hl 1 rfl) ?_
        refine lv_i2l (v := o_7.toInt64) hx hb dX8_sample_186 rfl ?_
        obtain ⟨o_29, hqo_29, hfn⟩ := zb_s hfn
        have hC := zC hP [] (wc := []) rfl
        have hPc := hP.sub [] (zfm hC)
        have hDc := hD.sub [] (of_decide_eq_true rfl) hC
        have hKc := hK.sub (tys' := []) [] rfl
        have hFc := va_free hD hS hA [] hC
        refine va_calll (va_runSN (As := [.long o_25, .long 1, .long o_7.toInt64]) (rest := []) ⟨hx, hb, hml, hown, hts⟩ (zf_X11_nearest l dC dI o_25 (1 : Int64) o_7.toInt64 o_29 hqo_29 H.size) ⟨va_cnB (host := RX11) 3 hts gX8_sample_X11_nearest_n52 rfl rfl rfl hn1 (hts (.initialized RX11) zw_X8_sample_558) (by decide +kernel) ⟨Nat.le_of_ble_eq_true rfl, Nat.le_of_ble_eq_true rfl⟩, (hts (.static yX11_nearest) zw_X8_sample_561), trivial⟩ ⟨fun a U g mk q => by obtain ⟨q0, q1, qP, qK, qD⟩ := q; exact ⟨q0, q1, qP, va_K.moved (u := U) (U := U.calling g mk a) (Vm.Alike.refl U.vm) qK, qD⟩, fun U hU hW => ⟨rfl, by rw [hU], by rw [hU]; exact hPc, va_K.moved hW.alike hKc, hDc.weaken (fun _ _ _ _ => trivial)⟩⟩ rfl rfl hl.1 rfl (lv_room (Nat.le_of_ble_eq_true rfl)) dX8_sample_187 ⟨Nat.le_of_ble_eq_true rfl, Nat.le_of_ble_eq_true rfl⟩) hS (fun q _ h => hFc q h) hFc (fun r_30 u_31 t H1 locs ht hvm hw_32 hB hz1 hk1 hS => ?_)
        obtain ⟨hP1, hK1, hD1⟩ := hB
        rw [ht] at hP1
        have hK1 := va_K.moved hvm.symm hK1
        obtain ⟨hP, hD⟩ := zjn (ws' := [zV8 h0 r0_0 r0_1, zV9 h1 v1_0 r1_1 r1_2 r1_3 r1_4 v1_5 r1_6 r1_7 r1_8, zV4 r1_6 v2_0 v2_1 r2_2 r2_3 r2_4 r2_5 r2_6 r2_7 r2_8 r2_9, zV2 r1_7 v3_0 v3_1 v3_2 r3_3 r3_4 r3_5, zVi r3_3 k4 14 f4, zVi h2 k5 14 f5, zVi r1_2 k6 4 f6, zVi r2_3 k7 14 f7, zVi r2_8 k8 28 f8, zVi r2_9 k9 28 f9, zVl r0_0 k10 14 (vp_updL s_1.2.2.1 s_1.2.1.toNatClampNeg o_21), zVl r0_1 k11 14 s_1.2.2.2]) hP hD [] hC hk1 hFc hP1 hD1 [] (of_decide_eq_true rfl) (of_decide_eq_true rfl) rfl rfl
        generalize H1 = H at hP hS ⊢
        refine W.eq (g2 := F0 m 190 ls [.long o_29]) (by rw [hw_32]) ?_
        refine lv_lstore (lv' := [(9, .long o_29), (8, .int (f7 s_1.2.1.toNatClampNeg)), (7, .int o_7), (6, .int s_1.2.1), (4, .long s_1.1), (0, .ref h0), (1, .ref h1), (2, .ref h2)]) hx hb dX8_sample_190 hl (of_decide_eq_true rfl) rfl (fun ls hl => ?_)
        refine lv_aload_n hx hb dX8_sample_192 rfl (lv_at hl 6 rfl) ?_
        refine lv_aload_n hx hb dX8_sample_193 rfl (lv_at hl 5 rfl) ?_
        refine va_get (D := (dC, dI)) (ci := 8) (v := .ref r0_1) (C := RX8) (T := TX8) (N := 2) hx hb hts zn_X8_sample_X8 hown hK hP 0 rfl rfl 1 (of_decide_eq_true rfl) (hts (.fieldLink RX8 15 "ShortEnough$Sampler" "kept" "[J") zw_X8_sample_560) (fun _ h9 => h9) rfl dX8_sample_194 ?_
        refine lv_iload hx hb dX8_sample_197 (lv_at hl 3 rfl) ?_
        refine lv_iconst (v := 1) hx hb dX8_sample_199 zci_1 ?_
        obtain ⟨o_33, hqo_33, hfn⟩ := zb_s hfn
        refine zcSl (rest := []) (pc' := 203) (ws' := [zV8 h0 r0_0 r0_1, zV9 h1 v1_0 r1_1 r1_2 r1_3 r1_4 v1_5 r1_6 r1_7 r1_8, zV4 r1_6 v2_0 v2_1 r2_2 r2_3 r2_4 r2_5 r2_6 r2_7 r2_8 r2_9, zV2 r1_7 v3_0 v3_1 v3_2 r3_3 r3_4 r3_5, zVi r3_3 k4 14 f4, zVi h2 k5 14 f5, zVi r1_2 k6 4 f6, zVi r2_3 k7 14 f7, zVi r2_8 k8 28 f8, zVi r2_9 k9 28 f9, zVl r0_0 k10 14 (vp_updL s_1.2.2.1 s_1.2.1.toNatClampNeg o_21), zVl r0_1 k11 14 s_1.2.2.2]) hP hK hD hS hA ⟨hx, hb, hml, hown, hts⟩ (zf_X8_whatOf l dC dI h1 r0_1 s_1.2.1 1 v1_0 r1_1 r1_2 r1_3 r1_4 v1_5 r1_6 r1_7 r1_8 v2_0 v2_1 r2_2 r2_3 r2_4 r2_5 r2_6 r2_7 r2_8 r2_9 k8 f8 k9 f9 k11 s_1.2.2.2 o_33 hqo_33 H.size) (va_cwS 4 hts gX8_sample_X8_whatOf rfl rfl rfl zhd_X8_whatOf.2 ⟨Nat.le_of_ble_eq_true rfl, Nat.le_of_ble_eq_true rfl⟩) [1, 2, 8, 9, 11] rfl (of_decide_eq_true rfl) [4, 5, 7] rfl rfl hl.1 rfl (Nat.le_of_ble_eq_true rfl) dX8_sample_200 ⟨Nat.le_of_ble_eq_true rfl, Nat.le_of_ble_eq_true rfl⟩ [none, some 0, some 1, none, none, none, none, none, some 2, some 3, none, some 4] (of_decide_eq_true rfl) (of_decide_eq_true rfl) rfl rfl rfl (fun H locs hP hD hS => ?_)
        refine lv_lconst (v := 1) hx hb dX8_sample_203 (by decide +kernel) ?_
        refine lv_iload hx hb dX8_sample_204 (lv_at hl 2 rfl) ?_
        refine lv_i2l (v := o_7.toInt64) hx hb dX8_sample_206 rfl ?_
        obtain ⟨o_37, hqo_37, hfn⟩ := zb_s hfn
        have hC := zC hP [] (wc := []) rfl
        have hPc := hP.sub [] (zfm hC)
        have hDc := hD.sub [] (of_decide_eq_true rfl) hC
        have hKc := hK.sub (tys' := []) [] rfl
        have hFc := va_free hD hS hA [] hC
        refine va_calll (va_runSN (As := [.long o_33, .long 1, .long o_7.toInt64]) (rest := []) ⟨hx, hb, hml, hown, hts⟩ (zf_X11_nearest l dC dI o_33 (1 : Int64) o_7.toInt64 o_37 hqo_37 H.size) ⟨va_cnB (host := RX11) 3 hts gX8_sample_X11_nearest_n52 rfl rfl rfl hn1 (hts (.initialized RX11) zw_X8_sample_558) (by decide +kernel) ⟨Nat.le_of_ble_eq_true rfl, Nat.le_of_ble_eq_true rfl⟩, (hts (.static yX11_nearest) zw_X8_sample_561), trivial⟩ ⟨fun a U g mk q => by obtain ⟨q0, q1, qP, qK, qD⟩ := q; exact ⟨q0, q1, qP, va_K.moved (u := U) (U := U.calling g mk a) (Vm.Alike.refl U.vm) qK, qD⟩, fun U hU hW => ⟨rfl, by rw [hU], by rw [hU]; exact hPc, va_K.moved hW.alike hKc, hDc.weaken (fun _ _ _ _ => trivial)⟩⟩ rfl rfl hl.1 rfl (lv_room (Nat.le_of_ble_eq_true rfl)) dX8_sample_207 ⟨Nat.le_of_ble_eq_true rfl, Nat.le_of_ble_eq_true rfl⟩) hS (fun q _ h => hFc q h) hFc (fun r_38 u_39 t H1 locs ht hvm hw_40 hB hz1 hk1 hS => ?_)
        obtain ⟨hP1, hK1, hD1⟩ := hB
        rw [ht] at hP1
        have hK1 := va_K.moved hvm.symm hK1
        obtain ⟨hP, hD⟩ := zjn (ws' := [zV8 h0 r0_0 r0_1, zV9 h1 v1_0 r1_1 r1_2 r1_3 r1_4 v1_5 r1_6 r1_7 r1_8, zV4 r1_6 v2_0 v2_1 r2_2 r2_3 r2_4 r2_5 r2_6 r2_7 r2_8 r2_9, zV2 r1_7 v3_0 v3_1 v3_2 r3_3 r3_4 r3_5, zVi r3_3 k4 14 f4, zVi h2 k5 14 f5, zVi r1_2 k6 4 f6, zVi r2_3 k7 14 f7, zVi r2_8 k8 28 f8, zVi r2_9 k9 28 f9, zVl r0_0 k10 14 (vp_updL s_1.2.2.1 s_1.2.1.toNatClampNeg o_21), zVl r0_1 k11 14 s_1.2.2.2]) hP hD [] hC hk1 hFc hP1 hD1 [] (of_decide_eq_true rfl) (of_decide_eq_true rfl) rfl rfl
        generalize H1 = H at hP hS ⊢
        refine W.eq (g2 := F0 m 210 ls [.long o_37]) (by rw [hw_40]) ?_
        refine lv_lstore (lv' := [(11, .long o_37), (9, .long o_29), (8, .int (f7 s_1.2.1.toNatClampNeg)), (7, .int o_7), (6, .int s_1.2.1), (4, .long s_1.1), (0, .ref h0), (1, .ref h1), (2, .ref h2)]) hx hb dX8_sample_210 hl (of_decide_eq_true rfl) rfl (fun ls hl => ?_)
        refine lv_aload_n hx hb dX8_sample_212 rfl (lv_at hl 6 rfl) ?_
        refine va_get (D := (dC, dI)) (ci := 8) (v := .ref r0_1) (C := RX8) (T := TX8) (N := 2) hx hb hts zn_X8_sample_X8 hown hK hP 0 rfl rfl 1 (of_decide_eq_true rfl) (hts (.fieldLink RX8 15 "ShortEnough$Sampler" "kept" "[J") zw_X8_sample_560) (fun _ h9 => h9) rfl dX8_sample_213 ?_
        refine lv_iload hx hb dX8_sample_216 (lv_at hl 4 rfl) ?_
        refine lv_iload hx hb dX8_sample_218 (lv_at hl 2 rfl) ?_
        refine lv_lload hx hb dX8_sample_220 (lv_at hl 1 rfl) ?_
        refine lv_lload hx hb dX8_sample_222 (lv_at hl 0 rfl) ?_
        refine lv_iload hx hb dX8_sample_224 (lv_at hl 3 rfl) ?_
        refine lv_i2l (v := o_7.toInt64) hx hb dX8_sample_226 rfl ?_
        obtain ⟨o_41, hqo_41, hfn⟩ := zb_s hfn
        have hC := zC hP [] (wc := []) rfl
        have hPc := hP.sub [] (zfm hC)
        have hDc := hD.sub [] (of_decide_eq_true rfl) hC
        have hKc := hK.sub (tys' := []) [] rfl
        have hFc := va_free hD hS hA [] hC
        refine va_calll (va_runSN (As := [.int (f7 s_1.2.1.toNatClampNeg), .long o_29, .long o_37, .long o_7.toInt64]) (rest := [.int s_1.2.1, .ref r0_1]) ⟨hx, hb, hml, hown, hts⟩ (zf_X11_apply l dC dI (f7 s_1.2.1.toNatClampNeg) o_29 o_37 o_7.toInt64 o_41 hqo_41 H.size) ⟨va_cnB (host := RX11) 4 hts gX8_sample_X11_apply_n60 rfl rfl rfl hn0 (hts (.initialized RX11) zw_X8_sample_558) (by decide +kernel) ⟨Nat.le_of_ble_eq_true rfl, Nat.le_of_ble_eq_true rfl⟩, (hts (.static yX11_apply) zw_X8_sample_559), trivial⟩ ⟨fun a U g mk q => by obtain ⟨q0, q1, qP, qK, qD⟩ := q; exact ⟨q0, q1, qP, va_K.moved (u := U) (U := U.calling g mk a) (Vm.Alike.refl U.vm) qK, qD⟩, fun U hU hW => ⟨rfl, by rw [hU], by rw [hU]; exact hPc, va_K.moved hW.alike hKc, hDc.weaken (fun _ _ _ _ => trivial)⟩⟩ rfl rfl hl.1 rfl (lv_room (Nat.le_of_ble_eq_true rfl)) dX8_sample_227 ⟨Nat.le_of_ble_eq_true rfl, Nat.le_of_ble_eq_true rfl⟩) hS (fun q _ h => hFc q h) hFc (fun r_42 u_43 t H1 locs ht hvm hw_44 hB hz1 hk1 hS => ?_)
        obtain ⟨hP1, hK1, hD1⟩ := hB
        rw [ht] at hP1
        have hK1 := va_K.moved hvm.symm hK1
        obtain ⟨hP, hD⟩ := zjn (ws' := [zV8 h0 r0_0 r0_1, zV9 h1 v1_0 r1_1 r1_2 r1_3 r1_4 v1_5 r1_6 r1_7 r1_8, zV4 r1_6 v2_0 v2_1 r2_2 r2_3 r2_4 r2_5 r2_6 r2_7 r2_8 r2_9, zV2 r1_7 v3_0 v3_1 v3_2 r3_3 r3_4 r3_5, zVi r3_3 k4 14 f4, zVi h2 k5 14 f5, zVi r1_2 k6 4 f6, zVi r2_3 k7 14 f7, zVi r2_8 k8 28 f8, zVi r2_9 k9 28 f9, zVl r0_0 k10 14 (vp_updL s_1.2.2.1 s_1.2.1.toNatClampNeg o_21), zVl r0_1 k11 14 s_1.2.2.2]) hP hD [] hC hk1 hFc hP1 hD1 [] (of_decide_eq_true rfl) (of_decide_eq_true rfl) rfl rfl
        generalize H1 = H at hP hS ⊢
        refine W.eq (g2 := F0 m 230 ls [.long o_41, .int s_1.2.1, .ref r0_1]) (by rw [hw_44]) ?_
        refine va_last hx hb hK hP hD hS 11 7 rfl rfl h_11 dX8_sample_230 (fun H locs hP hD hS => ?_)
        have hP : va_P (dC, dI) vwCl [zV8 h0 r0_0 r0_1, zV9 h1 v1_0 r1_1 r1_2 r1_3 r1_4 v1_5 r1_6 r1_7 r1_8, zV4 r1_6 v2_0 v2_1 r2_2 r2_3 r2_4 r2_5 r2_6 r2_7 r2_8 r2_9, zV2 r1_7 v3_0 v3_1 v3_2 r3_3 r3_4 r3_5, zVi r3_3 k4 14 f4, zVi h2 k5 14 f5, zVi r1_2 k6 4 f6, zVi r2_3 k7 14 f7, zVi r2_8 k8 28 f8, zVi r2_9 k9 28 f9, zVl r0_0 k10 14 (vp_updL s_1.2.2.1 s_1.2.1.toNatClampNeg o_21), zVl r0_1 k11 14 (vp_updL s_1.2.2.2 s_1.2.1.toNatClampNeg o_41)] H := hP
        have hD := zDW hD hP rfl
        refine lv_iinc (v := (s_1.2.1 + 1)) (lv' := [(6, .int (s_1.2.1 + 1)), (11, .long o_37), (9, .long o_29), (8, .int (f7 s_1.2.1.toNatClampNeg)), (7, .int o_7), (4, .long s_1.1), (0, .ref h0), (1, .ref h1), (2, .ref h2)]) hx hb dX8_sample_231 hl (k := 4) rfl rfl (of_decide_eq_true rfl) rfl (fun ls hl => ?_)
        refine lv_goto (tgt := 7) hx hb dX8_sample_234 (of_decide_eq_true rfl) ?_
        exact ih_1 (s_1.1, (s_1.2.1 + 1), (vp_updL s_1.2.2.1 s_1.2.1.toNatClampNeg o_21), (vp_updL s_1.2.2.2 s_1.2.1.toNatClampNeg o_41)) H locs ls hfn hP hD hS (lv_sub hl [0, 5, 6, 7, 8] rfl)
      have hfn := (if_pos c_12).symm.trans hfn
      refine lv_ldc2 (v := 1103515245) hx hb hown (hts (.constantLong RX8 42 (1103515245)) zw_X8_sample_562) dX8_sample_49 ?_
      refine lv_lload hx hb dX8_sample_52 (lv_at hl 3 rfl) ?_
      refine lv_lmul hx hb dX8_sample_54 ?_
      refine lv_ldc2 (v := 12345) hx hb hown (hts (.constantLong RX8 44 (12345)) zw_X8_sample_563) dX8_sample_55 ?_
      refine lv_ladd hx hb dX8_sample_58 ?_
      refine lv_ldc2 (v := 2147483648) hx hb hown (hts (.constantLong RX8 46 (2147483648)) zw_X8_sample_564) dX8_sample_59 ?_
      refine lv_lrem hx hb dX8_sample_62 (by decide +kernel) ?_
      refine lv_topl (fun x_45 ex_45 => ?_)
      have hfn := zn_s hfn ex_45
      refine lv_lstore (lv' := [(4, .long x_45), (8, .int (f7 s_1.2.1.toNatClampNeg)), (7, .int o_7), (6, .int s_1.2.1), (0, .ref h0), (1, .ref h1), (2, .ref h2)]) hx hb dX8_sample_63 hl (of_decide_eq_true rfl) rfl (fun ls hl => ?_)
      refine lv_aload_n hx hb dX8_sample_65 rfl (lv_at hl 5 rfl) ?_
      refine va_get (D := (dC, dI)) (ci := 9) (v := .ref r1_6) (C := RX9) (T := TX9) (N := 9) hx hb hts zn_X8_sample_X9 hown hK hP 1 rfl rfl 6 (of_decide_eq_true rfl) (hts (.fieldLink RX8 18 "ShortEnough$Task" "numbers" "LShortEnough$Numbers;") zw_X8_sample_550) (fun _ h9 => h9) rfl dX8_sample_66 ?_
      refine lv_iload hx hb dX8_sample_69 (lv_at hl 3 rfl) ?_
      refine lv_iconst (v := 0) hx hb dX8_sample_71 zci_0 ?_
      obtain ⟨o_46, hqo_46, hfn⟩ := zb_s hfn
      refine zcVl (ci := 4) (rest := []) (pc' := 75) (ws' := [zV8 h0 r0_0 r0_1, zV9 h1 v1_0 r1_1 r1_2 r1_3 r1_4 v1_5 r1_6 r1_7 r1_8, zV4 r1_6 v2_0 v2_1 r2_2 r2_3 r2_4 r2_5 r2_6 r2_7 r2_8 r2_9, zV2 r1_7 v3_0 v3_1 v3_2 r3_3 r3_4 r3_5, zVi r3_3 k4 14 f4, zVi h2 k5 14 f5, zVi r1_2 k6 4 f6, zVi r2_3 k7 14 f7, zVi r2_8 k8 28 f8, zVi r2_9 k9 28 f9, zVl r0_0 k10 14 s_1.2.2.1, zVl r0_1 k11 14 s_1.2.2.2]) hP hK hD hS hA ⟨hx, hb, hml, hown, hts⟩ (zf_X4_amountOf l dC dI r1_6 s_1.2.1 0 v2_0 v2_1 r2_2 r2_3 r2_4 r2_5 r2_6 r2_7 r2_8 r2_9 k9 f9 o_46 hqo_46 H.size) (cwV 2 hts gX8_sample_X4_amountOf rfl rfl rfl zhd_X4_amountOf ⟨Nat.le_of_ble_eq_true rfl, Nat.le_of_ble_eq_true rfl⟩) [2, 9] rfl (of_decide_eq_true rfl) [5] rfl rfl rfl rfl hl.1 rfl (Nat.le_of_ble_eq_true rfl) dX8_sample_72 ⟨Nat.le_of_ble_eq_true rfl, Nat.le_of_ble_eq_true rfl⟩ [none, none, some 0, none, none, none, none, none, none, some 1] (of_decide_eq_true rfl) (of_decide_eq_true rfl) rfl rfl rfl (fun H locs hP hD hS => ?_)
      refine lv_lstore (lv' := [(9, .long o_46), (4, .long x_45), (8, .int (f7 s_1.2.1.toNatClampNeg)), (7, .int o_7), (6, .int s_1.2.1), (0, .ref h0), (1, .ref h1), (2, .ref h2)]) hx hb dX8_sample_75 hl (of_decide_eq_true rfl) rfl (fun ls hl => ?_)
      refine lv_aload_n hx hb dX8_sample_77 rfl (lv_at hl 6 rfl) ?_
      refine va_get (D := (dC, dI)) (ci := 9) (v := .ref r1_6) (C := RX9) (T := TX9) (N := 9) hx hb hts zn_X8_sample_X9 hown hK hP 1 rfl rfl 6 (of_decide_eq_true rfl) (hts (.fieldLink RX8 18 "ShortEnough$Task" "numbers" "LShortEnough$Numbers;") zw_X8_sample_550) (fun _ h9 => h9) rfl dX8_sample_78 ?_
      refine lv_iload hx hb dX8_sample_81 (lv_at hl 4 rfl) ?_
      refine lv_iconst (v := 1) hx hb dX8_sample_83 zci_1 ?_
      obtain ⟨o_50, hqo_50, hfn⟩ := zb_s hfn
      refine zcVl (ci := 4) (rest := []) (pc' := 87) (ws' := [zV8 h0 r0_0 r0_1, zV9 h1 v1_0 r1_1 r1_2 r1_3 r1_4 v1_5 r1_6 r1_7 r1_8, zV4 r1_6 v2_0 v2_1 r2_2 r2_3 r2_4 r2_5 r2_6 r2_7 r2_8 r2_9, zV2 r1_7 v3_0 v3_1 v3_2 r3_3 r3_4 r3_5, zVi r3_3 k4 14 f4, zVi h2 k5 14 f5, zVi r1_2 k6 4 f6, zVi r2_3 k7 14 f7, zVi r2_8 k8 28 f8, zVi r2_9 k9 28 f9, zVl r0_0 k10 14 s_1.2.2.1, zVl r0_1 k11 14 s_1.2.2.2]) hP hK hD hS hA ⟨hx, hb, hml, hown, hts⟩ (zf_X4_amountOf l dC dI r1_6 s_1.2.1 1 v2_0 v2_1 r2_2 r2_3 r2_4 r2_5 r2_6 r2_7 r2_8 r2_9 k9 f9 o_50 hqo_50 H.size) (cwV 2 hts gX8_sample_X4_amountOf rfl rfl rfl zhd_X4_amountOf ⟨Nat.le_of_ble_eq_true rfl, Nat.le_of_ble_eq_true rfl⟩) [2, 9] rfl (of_decide_eq_true rfl) [5] rfl rfl rfl rfl hl.1 rfl (Nat.le_of_ble_eq_true rfl) dX8_sample_84 ⟨Nat.le_of_ble_eq_true rfl, Nat.le_of_ble_eq_true rfl⟩ [none, none, some 0, none, none, none, none, none, none, some 1] (of_decide_eq_true rfl) (of_decide_eq_true rfl) rfl rfl rfl (fun H locs hP hD hS => ?_)
      refine lv_lload hx hb dX8_sample_87 (lv_at hl 0 rfl) ?_
      refine lv_lsub hx hb dX8_sample_89 ?_
      refine lv_lconst (v := 1) hx hb dX8_sample_90 (by decide +kernel) ?_
      refine lv_ladd hx hb dX8_sample_91 ?_
      refine lv_lstore (lv' := [(11, .long ((o_50 - o_46) + (1 : Int64))), (9, .long o_46), (4, .long x_45), (8, .int (f7 s_1.2.1.toNatClampNeg)), (7, .int o_7), (6, .int s_1.2.1), (0, .ref h0), (1, .ref h1), (2, .ref h2)]) hx hb dX8_sample_92 hl (of_decide_eq_true rfl) rfl (fun ls hl => ?_)
      refine lv_aload_n hx hb dX8_sample_94 rfl (lv_at hl 6 rfl) ?_
      refine va_get (D := (dC, dI)) (ci := 8) (v := .ref r0_0) (C := RX8) (T := TX8) (N := 2) hx hb hts zn_X8_sample_X8 hown hK hP 0 rfl rfl 0 (of_decide_eq_true rfl) (hts (.fieldLink RX8 9 "ShortEnough$Sampler" "exact" "[J") zw_X8_sample_555) (fun _ h9 => h9) rfl dX8_sample_95 ?_
      refine lv_iload hx hb dX8_sample_98 (lv_at hl 5 rfl) ?_
      refine lv_lload hx hb dX8_sample_100 (lv_at hl 1 rfl) ?_
      refine lv_lload hx hb dX8_sample_102 (lv_at hl 2 rfl) ?_
      refine lv_lload hx hb dX8_sample_104 (lv_at hl 0 rfl) ?_
      refine lv_lmul hx hb dX8_sample_106 ?_
      refine lv_ldc2 (v := 2147483648) hx hb hown (hts (.constantLong RX8 46 (2147483648)) zw_X8_sample_564) dX8_sample_107 ?_
      refine lv_ldiv hx hb dX8_sample_110 (by decide +kernel) ?_
      refine lv_ladd hx hb dX8_sample_111 ?_
      refine lv_topl (fun x_54 ex_54 => ?_)
      have hfn := zn_s hfn ex_54
      refine va_last hx hb hK hP hD hS 10 6 rfl rfl h_11 dX8_sample_112 (fun H locs hP hD hS => ?_)
      have hP : va_P (dC, dI) vwCl [zV8 h0 r0_0 r0_1, zV9 h1 v1_0 r1_1 r1_2 r1_3 r1_4 v1_5 r1_6 r1_7 r1_8, zV4 r1_6 v2_0 v2_1 r2_2 r2_3 r2_4 r2_5 r2_6 r2_7 r2_8 r2_9, zV2 r1_7 v3_0 v3_1 v3_2 r3_3 r3_4 r3_5, zVi r3_3 k4 14 f4, zVi h2 k5 14 f5, zVi r1_2 k6 4 f6, zVi r2_3 k7 14 f7, zVi r2_8 k8 28 f8, zVi r2_9 k9 28 f9, zVl r0_0 k10 14 (vp_updL s_1.2.2.1 s_1.2.1.toNatClampNeg x_54), zVl r0_1 k11 14 s_1.2.2.2] H := hP
      have hD := zDW hD hP rfl
      refine lv_aload_n hx hb dX8_sample_113 rfl (lv_at hl 6 rfl) ?_
      refine va_get (D := (dC, dI)) (ci := 8) (v := .ref r0_1) (C := RX8) (T := TX8) (N := 2) hx hb hts zn_X8_sample_X8 hown hK hP 0 rfl rfl 1 (of_decide_eq_true rfl) (hts (.fieldLink RX8 15 "ShortEnough$Sampler" "kept" "[J") zw_X8_sample_560) (fun _ h9 => h9) rfl dX8_sample_114 ?_
      refine lv_iload hx hb dX8_sample_117 (lv_at hl 5 rfl) ?_
      refine lv_aload_n hx hb dX8_sample_119 rfl (lv_at hl 6 rfl) ?_
      refine va_get (D := (dC, dI)) (ci := 8) (v := .ref r0_0) (C := RX8) (T := TX8) (N := 2) hx hb hts zn_X8_sample_X8 hown hK hP 0 rfl rfl 0 (of_decide_eq_true rfl) (hts (.fieldLink RX8 9 "ShortEnough$Sampler" "exact" "[J") zw_X8_sample_555) (fun _ h9 => h9) rfl dX8_sample_120 ?_
      refine lv_iload hx hb dX8_sample_123 (lv_at hl 5 rfl) ?_
      refine va_lald hx hb hK hP 10 6 rfl rfl h_11 dX8_sample_125 ?_
      refine lv_lconst (v := 1) hx hb dX8_sample_126 (by decide +kernel) ?_
      refine lv_iload hx hb dX8_sample_127 (lv_at hl 4 rfl) ?_
      refine lv_i2l (v := o_7.toInt64) hx hb dX8_sample_129 rfl ?_
      obtain ⟨o_55, hqo_55, hfn⟩ := zb_s hfn
      have hC := zC hP [] (wc := []) rfl
      have hPc := hP.sub [] (zfm hC)
      have hDc := hD.sub [] (of_decide_eq_true rfl) hC
      have hKc := hK.sub (tys' := []) [] rfl
      have hFc := va_free hD hS hA [] hC
      refine va_calll (va_runSN (As := [.long ((vp_updL s_1.2.2.1 s_1.2.1.toNatClampNeg x_54) s_1.2.1.toNatClampNeg), .long 1, .long o_7.toInt64]) (rest := [.int s_1.2.1, .ref r0_1]) ⟨hx, hb, hml, hown, hts⟩ (zf_X11_nearest l dC dI ((vp_updL s_1.2.2.1 s_1.2.1.toNatClampNeg x_54) s_1.2.1.toNatClampNeg) (1 : Int64) o_7.toInt64 o_55 hqo_55 H.size) ⟨va_cnB (host := RX11) 3 hts gX8_sample_X11_nearest_n52 rfl rfl rfl hn1 (hts (.initialized RX11) zw_X8_sample_558) (by decide +kernel) ⟨Nat.le_of_ble_eq_true rfl, Nat.le_of_ble_eq_true rfl⟩, (hts (.static yX11_nearest) zw_X8_sample_561), trivial⟩ ⟨fun a U g mk q => by obtain ⟨q0, q1, qP, qK, qD⟩ := q; exact ⟨q0, q1, qP, va_K.moved (u := U) (U := U.calling g mk a) (Vm.Alike.refl U.vm) qK, qD⟩, fun U hU hW => ⟨rfl, by rw [hU], by rw [hU]; exact hPc, va_K.moved hW.alike hKc, hDc.weaken (fun _ _ _ _ => trivial)⟩⟩ rfl rfl hl.1 rfl (lv_room (Nat.le_of_ble_eq_true rfl)) dX8_sample_130 ⟨Nat.le_of_ble_eq_true rfl, Nat.le_of_ble_eq_true rfl⟩) hS (fun q _ h => hFc q h) hFc (fun r_56 u_57 t H1 locs ht hvm hw_58 hB hz1 hk1 hS => ?_)
      obtain ⟨hP1, hK1, hD1⟩ := hB
      rw [ht] at hP1
      have hK1 := va_K.moved hvm.symm hK1
      obtain ⟨hP, hD⟩ := zjn (ws' := [zV8 h0 r0_0 r0_1, zV9 h1 v1_0 r1_1 r1_2 r1_3 r1_4 v1_5 r1_6 r1_7 r1_8, zV4 r1_6 v2_0 v2_1 r2_2 r2_3 r2_4 r2_5 r2_6 r2_7 r2_8 r2_9, zV2 r1_7 v3_0 v3_1 v3_2 r3_3 r3_4 r3_5, zVi r3_3 k4 14 f4, zVi h2 k5 14 f5, zVi r1_2 k6 4 f6, zVi r2_3 k7 14 f7, zVi r2_8 k8 28 f8, zVi r2_9 k9 28 f9, zVl r0_0 k10 14 (vp_updL s_1.2.2.1 s_1.2.1.toNatClampNeg x_54), zVl r0_1 k11 14 s_1.2.2.2]) hP hD [] hC hk1 hFc hP1 hD1 [] (of_decide_eq_true rfl) (of_decide_eq_true rfl) rfl rfl
      generalize H1 = H at hP hS ⊢
      refine W.eq (g2 := F0 m 133 ls [.long o_55, .int s_1.2.1, .ref r0_1]) (by rw [hw_58]) ?_
      refine va_last hx hb hK hP hD hS 11 7 rfl rfl h_11 dX8_sample_133 (fun H locs hP hD hS => ?_)
      have hP : va_P (dC, dI) vwCl [zV8 h0 r0_0 r0_1, zV9 h1 v1_0 r1_1 r1_2 r1_3 r1_4 v1_5 r1_6 r1_7 r1_8, zV4 r1_6 v2_0 v2_1 r2_2 r2_3 r2_4 r2_5 r2_6 r2_7 r2_8 r2_9, zV2 r1_7 v3_0 v3_1 v3_2 r3_3 r3_4 r3_5, zVi r3_3 k4 14 f4, zVi h2 k5 14 f5, zVi r1_2 k6 4 f6, zVi r2_3 k7 14 f7, zVi r2_8 k8 28 f8, zVi r2_9 k9 28 f9, zVl r0_0 k10 14 (vp_updL s_1.2.2.1 s_1.2.1.toNatClampNeg x_54), zVl r0_1 k11 14 (vp_updL s_1.2.2.2 s_1.2.1.toNatClampNeg o_55)] H := hP
      have hD := zDW hD hP rfl
      refine lv_goto (tgt := 231) hx hb dX8_sample_134 (of_decide_eq_true rfl) ?_
      refine lv_iinc (v := (s_1.2.1 + 1)) (lv' := [(6, .int (s_1.2.1 + 1)), (11, .long ((o_50 - o_46) + (1 : Int64))), (9, .long o_46), (4, .long x_45), (8, .int (f7 s_1.2.1.toNatClampNeg)), (7, .int o_7), (0, .ref h0), (1, .ref h1), (2, .ref h2)]) hx hb dX8_sample_231 hl (k := 5) rfl rfl (of_decide_eq_true rfl) rfl (fun ls hl => ?_)
      refine lv_goto (tgt := 7) hx hb dX8_sample_234 (of_decide_eq_true rfl) ?_
      exact ih_1 (x_45, (s_1.2.1 + 1), (vp_updL s_1.2.2.1 s_1.2.1.toNatClampNeg x_54), (vp_updL s_1.2.2.2 s_1.2.1.toNatClampNeg o_55)) H locs ls hfn hP hD hS (lv_sub hl [0, 3, 6, 7, 8] rfl)
  exact lp_1 _ (p3.toInt64, 0, f10, f11) s.heap [] ls hfn hP hD hS (lv_sub hl [0, 1, 2, 3, 4] rfl)
theorem zn_X9_settle_X9 : ∀ w ∈ wsX90, w ∈ wsX9_settle := fun _ h => List.mem_cons_of_mem _ (List.mem_append_left _ (List.mem_append_left _ (List.mem_append_left _ (List.mem_append_right _ h))))
theorem zw_X9_settle_566 : Cond.fieldLink RX9 34 "ShortEnough$Task" "groups" "LShortEnough$Groups;" ∈ wsX9_settle := List.mem_of_getElem? (i := 1) (by decide +kernel)
theorem zw_X9_settle_567 : Cond.fieldLink RX9 27 "ShortEnough$Task" "numbers" "LShortEnough$Numbers;" ∈ wsX9_settle := List.mem_of_getElem? (i := 2) (by decide +kernel)
theorem zw_X9_settle_568 : Cond.fieldLink RX9 41 "ShortEnough$Task" "ranges" "LShortEnough$Ranges;" ∈ wsX9_settle := List.mem_of_getElem? (i := 3) (by decide +kernel)
set_option maxHeartbeats 4000000 in
set_option maxRecDepth 100000 in
theorem zf_X9_settle (l : Launch) (dC : Nat → ClassId) (dI : Nat → Nat → Nat) (h0 : Nat) (v0_0 : Int32) (r0_1 : Nat) (r0_2 : Nat) (r0_3 : Nat) (r0_4 : Nat) (v0_5 : Int32) (r0_6 : Nat) (r0_7 : Nat) (r0_8 : Nat) (v1_0 : Int32) (v1_1 : Int32) (v1_2 : Int32) (r1_3 : Nat) (r1_4 : Nat) (r1_5 : Nat) (v2_0 : Int32) (v2_1 : Int32) (r2_2 : Nat) (r2_3 : Nat) (r2_4 : Nat) (r2_5 : Nat) (r2_6 : Nat) (r2_7 : Nat) (r2_8 : Nat) (r2_9 : Nat) (k3 : Nat) (f3 : Nat → Int32) (k4 : Nat) (f4 : Nat → Int32) (k5 : Nat) (f5 : Nat → Int32) (k6 : Nat) (f6 : Nat → Int32) (k7 : Nat) (f7 : Nat → Int32) (r8_0 : Nat) (r8_1 : Nat) (r8_2 : Nat) (k9 : Nat) (f9 : Nat → Int32) (k10 : Nat) (f10 : Nat → Int32) (k11 : Nat) (f11 : Nat → Int32) (k12 : Nat) (f12 : Nat → Int64) (k13 : Nat) (f13 : Nat → Int64) (k14 : Nat) (f14 : Nat → Int32) (o : Int32 × Int32 × Int32 × (Nat → Int32) × (Nat → Int32) × (Nat → Int32) × (Nat → Int64) × (Nat → Int64) × (Nat → Int32)) (hfn : fn_X9_settle v2_0 f3 f4 f5 f6 f7 f9 f10 f11 f12 f13 f14 = some o) (sz : Nat) : zNv [(RX6, 83, yX11_apply, RX11)] l yX9_settle wsX9_settle ({ frames := 6, cells := 0, slots := 0, locals := 160 }) (dC, dI) vwCl [.ref h0] [zV9 h0 v0_0 r0_1 r0_2 r0_3 r0_4 v0_5 r0_6 r0_7 r0_8, zV2 r0_7 v1_0 v1_1 v1_2 r1_3 r1_4 r1_5, zV4 r0_6 v2_0 v2_1 r2_2 r2_3 r2_4 r2_5 r2_6 r2_7 r2_8 r2_9, zVi r2_7 k3 14 f3, zVi r1_3 k4 14 f4, zVi r1_5 k5 14 f5, zVi r1_4 k6 14 f6, zVi r2_4 k7 14 f7, zV6 r0_8 r8_0 r8_1 r8_2, zVi r2_3 k9 14 f9, zVi r2_8 k10 28 f10, zVi r2_9 k11 28 f11, zVl r8_0 k12 14 f12, zVl r8_1 k13 14 f13, zVi r8_2 k14 14 f14] [(k3, .int), (k4, .int), (k5, .int), (k6, .int), (k7, .int), (k9, .int), (k10, .int), (k11, .int), (k12, .long), (k13, .long), (k14, .boolean)] (fun _ => True) [zV9 h0 v0_0 r0_1 r0_2 r0_3 r0_4 v0_5 r0_6 r0_7 r0_8, zV2 r0_7 o.1 o.2.1 o.2.2.1 r1_3 r1_4 r1_5, zV4 r0_6 v2_0 v2_1 r2_2 r2_3 r2_4 r2_5 r2_6 r2_7 r2_8 r2_9, zVi r2_7 k3 14 f3, zVi r1_3 k4 14 o.2.2.2.1, zVi r1_5 k5 14 o.2.2.2.2.1, zVi r1_4 k6 14 o.2.2.2.2.2.1, zVi r2_4 k7 14 f7, zV6 r0_8 r8_0 r8_1 r8_2, zVi r2_3 k9 14 f9, zVi r2_8 k10 28 f10, zVi r2_9 k11 28 f11, zVl r8_0 k12 14 o.2.2.2.2.2.2.1, zVl r8_1 k13 14 o.2.2.2.2.2.2.2.1, zVi r8_2 k14 14 o.2.2.2.2.2.2.2.2] [(k3, .int), (k4, .int), (k5, .int), (k6, .int), (k7, .int), (k9, .int), (k10, .int), (k11, .int), (k12, .long), (k13, .long), (k14, .boolean)] sz := by
  refine zgoNv (cc := cX9_settle) (maxL := 1) (ret := none) (C0 := RX9) (lv0 := [(0, .ref h0)]) zpl_X9 rfl rfl rfl (Nat.le_of_ble_eq_true rfl) ?_
  intro p e s m below meth c A ls Q hN hx hb hr hts hown hlocks hml hP hK hD hA hS hl hQ
  have hn0 : va_Nw (.methodLinkNest RX6 83 yX11_apply RX11) s := hN.1
  unfold fn_X9_settle at hfn
  refine lv_aload_n hx hb dX9_settle_0 rfl (lv_at hl 0 rfl) ?_
  refine va_get (D := (dC, dI)) (ci := 9) (v := .ref r0_7) (C := RX9) (T := TX9) (N := 9) hx hb hts zn_X9_settle_X9 hown hK hP 0 rfl rfl 7 (of_decide_eq_true rfl) (hts (.fieldLink RX9 34 "ShortEnough$Task" "groups" "LShortEnough$Groups;") zw_X9_settle_566) (fun _ h9 => h9) rfl dX9_settle_1 ?_
  refine lv_aload_n hx hb dX9_settle_4 rfl (lv_at hl 0 rfl) ?_
  refine va_get (D := (dC, dI)) (ci := 9) (v := .ref r0_6) (C := RX9) (T := TX9) (N := 9) hx hb hts zn_X9_settle_X9 hown hK hP 0 rfl rfl 6 (of_decide_eq_true rfl) (hts (.fieldLink RX9 27 "ShortEnough$Task" "numbers" "LShortEnough$Numbers;") zw_X9_settle_567) (fun _ h9 => h9) rfl dX9_settle_5 ?_
  obtain ⟨o_1, hqo_1, hfn⟩ := zb_s hfn
  refine zcVv (ci := 2) (rest := []) (pc' := 11) (ws' := [zV9 h0 v0_0 r0_1 r0_2 r0_3 r0_4 v0_5 r0_6 r0_7 r0_8, zV2 r0_7 o_1.1 o_1.2.1 o_1.2.2.1 r1_3 r1_4 r1_5, zV4 r0_6 v2_0 v2_1 r2_2 r2_3 r2_4 r2_5 r2_6 r2_7 r2_8 r2_9, zVi r2_7 k3 14 f3, zVi r1_3 k4 14 o_1.2.2.2.1, zVi r1_5 k5 14 o_1.2.2.2.2.1, zVi r1_4 k6 14 o_1.2.2.2.2.2, zVi r2_4 k7 14 f7, zV6 r0_8 r8_0 r8_1 r8_2, zVi r2_3 k9 14 f9, zVi r2_8 k10 28 f10, zVi r2_9 k11 28 f11, zVl r8_0 k12 14 f12, zVl r8_1 k13 14 f13, zVi r8_2 k14 14 f14]) hP hK hD hS hA ⟨hx, hb, hml, hown, hts⟩ (zf_X2_gather l dC dI r0_7 r0_6 v1_0 v1_1 v1_2 r1_3 r1_4 r1_5 v2_0 v2_1 r2_2 r2_3 r2_4 r2_5 r2_6 r2_7 r2_8 r2_9 k3 f3 k4 f4 k5 f5 k6 f6 k7 f7 o_1 hqo_1 s.heap.size) (cwV 1 hts gX9_settle_X2_gather rfl rfl rfl zhd_X2_gather ⟨Nat.le_of_ble_eq_true rfl, Nat.le_of_ble_eq_true rfl⟩) [1, 2, 3, 4, 5, 6, 7] rfl (of_decide_eq_true rfl) [0, 1, 2, 3, 4] rfl rfl rfl rfl hl.1 rfl (Nat.le_of_ble_eq_true rfl) dX9_settle_8 ⟨Nat.le_of_ble_eq_true rfl, Nat.le_of_ble_eq_true rfl⟩ [none, some 0, some 1, some 2, some 3, some 4, some 5, some 6] (of_decide_eq_true rfl) (of_decide_eq_true rfl) rfl rfl rfl (fun H locs hP hD hS => ?_)
  refine lv_aload_n hx hb dX9_settle_11 rfl (lv_at hl 0 rfl) ?_
  refine va_get (D := (dC, dI)) (ci := 9) (v := .ref r0_8) (C := RX9) (T := TX9) (N := 9) hx hb hts zn_X9_settle_X9 hown hK hP 0 rfl rfl 8 (of_decide_eq_true rfl) (hts (.fieldLink RX9 41 "ShortEnough$Task" "ranges" "LShortEnough$Ranges;") zw_X9_settle_568) (fun _ h9 => h9) rfl dX9_settle_12 ?_
  refine lv_aload_n hx hb dX9_settle_15 rfl (lv_at hl 0 rfl) ?_
  refine va_get (D := (dC, dI)) (ci := 9) (v := .ref r0_6) (C := RX9) (T := TX9) (N := 9) hx hb hts zn_X9_settle_X9 hown hK hP 0 rfl rfl 6 (of_decide_eq_true rfl) (hts (.fieldLink RX9 27 "ShortEnough$Task" "numbers" "LShortEnough$Numbers;") zw_X9_settle_567) (fun _ h9 => h9) rfl dX9_settle_16 ?_
  refine lv_iconst (v := (-1)) hx hb dX9_settle_19 zci_m1 ?_
  refine lv_iconst (v := 0) hx hb dX9_settle_20 zci_0 ?_
  obtain ⟨o_5, hqo_5, hfn⟩ := zb_s hfn
  refine zcNVv (ci := 6) (rest := []) (pc' := 24) (ws' := [zV9 h0 v0_0 r0_1 r0_2 r0_3 r0_4 v0_5 r0_6 r0_7 r0_8, zV2 r0_7 o_1.1 o_1.2.1 o_1.2.2.1 r1_3 r1_4 r1_5, zV4 r0_6 v2_0 v2_1 r2_2 r2_3 r2_4 r2_5 r2_6 r2_7 r2_8 r2_9, zVi r2_7 k3 14 f3, zVi r1_3 k4 14 o_1.2.2.2.1, zVi r1_5 k5 14 o_1.2.2.2.2.1, zVi r1_4 k6 14 o_1.2.2.2.2.2, zVi r2_4 k7 14 f7, zV6 r0_8 r8_0 r8_1 r8_2, zVi r2_3 k9 14 f9, zVi r2_8 k10 28 f10, zVi r2_9 k11 28 f11, zVl r8_0 k12 14 o_5.1, zVl r8_1 k13 14 o_5.2.1, zVi r8_2 k14 14 o_5.2.2]) hP hK hD hS hA ⟨hx, hb, hml, hown, hts⟩ (zf_X6_fill l dC dI r0_8 r0_6 (-1) 0 r8_0 r8_1 r8_2 v2_0 v2_1 r2_2 r2_3 r2_4 r2_5 r2_6 r2_7 r2_8 r2_9 k9 f9 k10 f10 k11 f11 k12 f12 k13 f13 k14 f14 o_5 hqo_5 H.size) ⟨hn0, trivial⟩ (cwV 3 hts gX9_settle_X6_fill rfl rfl rfl zhd_X6_fill ⟨Nat.le_of_ble_eq_true rfl, Nat.le_of_ble_eq_true rfl⟩) [8, 2, 9, 10, 11, 12, 13, 14] rfl (of_decide_eq_true rfl) [5, 6, 7, 8, 9, 10] rfl rfl rfl rfl hl.1 rfl (Nat.le_of_ble_eq_true rfl) dX9_settle_21 ⟨Nat.le_of_ble_eq_true rfl, Nat.le_of_ble_eq_true rfl⟩ [none, none, some 1, none, none, none, none, none, some 0, some 2, some 3, some 4, some 5, some 6, some 7] (of_decide_eq_true rfl) (of_decide_eq_true rfl) rfl rfl rfl (fun H locs hP hD hS => ?_)
  have ho := Option.some.inj hfn
  subst ho
  exact zrv hx hb hr hK hP hD hS hQ trivial hlocks dX9_settle_24
