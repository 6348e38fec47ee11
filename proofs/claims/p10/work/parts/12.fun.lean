theorem zn_X3_goByHalves_X3 : ∀ w ∈ wsX30, w ∈ wsX3_goByHalves := fun _ h => List.mem_cons_of_mem _ (List.mem_append_left _ (List.mem_append_left _ (List.mem_append_left _ (List.mem_append_left _ (List.mem_append_left _ (List.mem_append_right _ h))))))
theorem zw_X3_goByHalves_280 : Cond.fieldLink RX3 45 "ShortEnough$LocalSearch" "ready" "Z" ∈ wsX3_goByHalves := List.mem_of_getElem? (i := 1) (by decide +kernel)
theorem zn_X3_goByHalves_X9 : ∀ w ∈ wsX90, w ∈ wsX3_goByHalves := fun _ h => List.mem_cons_of_mem _ (List.mem_append_left _ (List.mem_append_left _ (List.mem_append_left _ (List.mem_append_left _ (List.mem_append_right _ h)))))
theorem zw_X3_goByHalves_285 : Cond.fieldLink RX3 62 "ShortEnough$Task" "groups" "LShortEnough$Groups;" ∈ wsX3_goByHalves := List.mem_of_getElem? (i := 3) (by decide +kernel)
theorem zw_X3_goByHalves_286 : Cond.fieldLink RX3 35 "ShortEnough$LocalSearch" "row" "[I" ∈ wsX3_goByHalves := List.mem_of_getElem? (i := 4) (by decide +kernel)
theorem zw_X3_goByHalves_287 : Cond.fieldLink RX3 22 "ShortEnough$LocalSearch" "changed" "[Z" ∈ wsX3_goByHalves := List.mem_of_getElem? (i := 5) (by decide +kernel)
theorem zw_X3_goByHalves_288 : Cond.fieldLink RX3 72 "ShortEnough$LocalSearch" "tries" "I" ∈ wsX3_goByHalves := List.mem_of_getElem? (i := 6) (by decide +kernel)
theorem zw_X3_goByHalves_289 : Cond.fieldLink RX3 12 "ShortEnough$LocalSearch" "reckoning" "LShortEnough$Reckoning;" ∈ wsX3_goByHalves := List.mem_of_getElem? (i := 7) (by decide +kernel)
theorem zw_X3_goByHalves_290 : Cond.fieldLink RX3 75 "ShortEnough$Task" "ranges" "LShortEnough$Ranges;" ∈ wsX3_goByHalves := List.mem_of_getElem? (i := 8) (by decide +kernel)
theorem zw_X3_goByHalves_291 : Cond.fieldLink RX3 55 "ShortEnough$LocalSearch" "started" "Z" ∈ wsX3_goByHalves := List.mem_of_getElem? (i := 2) (by decide +kernel)
theorem zw_X3_goByHalves_292 : Cond.fieldLink RX3 87 "ShortEnough$LocalSearch" "price" "I" ∈ wsX3_goByHalves := List.mem_of_getElem? (i := 9) (by decide +kernel)
theorem zw_X3_goByHalves_293 : Cond.fieldLink RX3 90 "ShortEnough$Task" "formats" "I" ∈ wsX3_goByHalves := List.mem_of_getElem? (i := 10) (by decide +kernel)
set_option maxHeartbeats 4000000 in
set_option maxRecDepth 100000 in
theorem zf_X3_goByHalves (l : Launch) (dC : Nat → ClassId) (dI : Nat → Nat → Nat) (h0 : Nat) (h1 : Nat) (r0_0 : Nat) (r0_1 : Nat) (v0_2 : Int32) (v0_3 : Int32) (r0_4 : Nat) (r0_5 : Nat) (r0_6 : Nat) (r0_7 : Nat) (v0_8 : Int32) (r0_9 : Nat) (v0_10 : Int32) (v0_11 : Int32) (v0_12 : Int32) (v0_13 : Int32) (v0_14 : Int32) (v0_15 : Int32) (v1_0 : Int32) (r1_1 : Nat) (r1_2 : Nat) (r1_3 : Nat) (r1_4 : Nat) (v1_5 : Int32) (r1_6 : Nat) (r1_7 : Nat) (r1_8 : Nat) (v2_0 : Int32) (v2_1 : Int32) (r2_2 : Nat) (r2_3 : Nat) (r2_4 : Nat) (r2_5 : Nat) (r2_6 : Nat) (r2_7 : Nat) (r2_8 : Nat) (r2_9 : Nat) (v3_0 : Int32) (v3_1 : Int32) (v3_2 : Int32) (r3_3 : Nat) (r3_4 : Nat) (r3_5 : Nat) (k4 : Nat) (f4 : Nat → Int32) (k5 : Nat) (f5 : Nat → Int32) (k6 : Nat) (f6 : Nat → Int32) (k7 : Nat) (f7 : Nat → Int32) (r8_0 : Nat) (v8_1 : Int32) (v8_2 : Int32) (k9 : Nat) (f9 : Nat → Int32) (k10 : Nat) (f10 : Nat → Int32) (k11 : Nat) (f11 : Nat → Int32) (k12 : Nat) (f12 : Nat → Int64) (k13 : Nat) (f13 : Nat → Int32) (r14_0 : Nat) (r14_1 : Nat) (r14_2 : Nat) (k15 : Nat) (f15 : Nat → Int64) (k16 : Nat) (f16 : Nat → Int64) (k17 : Nat) (f17 : Nat → Int32) (k18 : Nat) (f18 : Nat → Int32) (k19 : Nat) (f19 : Nat → Int32) (k20 : Nat) (f20 : Nat → Int32) (k21 : Nat) (f21 : Nat → Int32) (k22 : Nat) (f22 : Nat → Int32) (o : Int32 × Int32 × Int32 × Int32 × Int32 × Int32 × (Nat → Int32) × (Nat → Int32) × Int32 × Int32 × (Nat → Int64) × (Nat → Int32) × (Nat → Int32) × (Nat → Int32)) (hfn : fn_X3_goByHalves v0_2 v0_3 v0_8 v0_10 v0_11 v1_0 v1_5 v2_0 v3_0 v3_2 f4 f5 f6 f7 v8_1 v8_2 f9 f10 f11 f12 f13 f15 f16 f17 f18 f19 f20 f21 f22 = some o) (sz : Nat) : zNi [(RX7, 90, yX11_divides, RX11)] l yX3_goByHalves wsX3_goByHalves ({ frames := 6, cells := 0, slots := 0, locals := 180 }) (dC, dI) vwCl [.ref h0, .ref h1] [zV3 h0 r0_0 r0_1 v0_2 v0_3 r0_4 r0_5 r0_6 r0_7 v0_8 r0_9 v0_10 v0_11 v0_12 v0_13 v0_14 v0_15, zV9 h1 v1_0 r1_1 r1_2 r1_3 r1_4 v1_5 r1_6 r1_7 r1_8, zV4 r1_6 v2_0 v2_1 r2_2 r2_3 r2_4 r2_5 r2_6 r2_7 r2_8 r2_9, zV2 r1_7 v3_0 v3_1 v3_2 r3_3 r3_4 r3_5, zVi r1_2 k4 4 f4, zVi r0_9 k5 14 f5, zVi r3_4 k6 14 f6, zVi r0_4 k7 14 f7, zV7 r0_0 r8_0 v8_1 v8_2, zVi r3_3 k9 14 f9, zVi r2_3 k10 14 f10, zVi r2_8 k11 28 f11, zVl r8_0 k12 14 f12, zVi r2_9 k13 28 f13, zV6 r1_8 r14_0 r14_1 r14_2, zVl r14_0 k15 14 f15, zVl r14_1 k16 14 f16, zVi r1_3 k17 4 f17, zVi r2_5 k18 14 f18, zVi r1_4 k19 4 f19, zVi r0_5 k20 14 f20, zVi r0_6 k21 28 f21, zVi r0_7 k22 28 f22] [(k4, .int), (k5, .int), (k6, .int), (k7, .boolean), (k9, .int), (k10, .int), (k11, .int), (k12, .long), (k13, .int), (k15, .long), (k16, .long), (k17, .int), (k18, .int), (k19, .int), (k20, .int), (k21, .int), (k22, .int)] (fun r _ => r = o.1 ∧ narrow .boolean (.int o.1) = .int o.1) [zV3 h0 r0_0 r0_1 o.2.2.2.1 o.2.2.2.2.1 r0_4 r0_5 r0_6 r0_7 o.2.2.2.2.2.1 r0_9 o.2.1 o.2.2.1 v0_12 v0_13 v0_14 v0_15, zV9 h1 v1_0 r1_1 r1_2 r1_3 r1_4 v1_5 r1_6 r1_7 r1_8, zV4 r1_6 v2_0 v2_1 r2_2 r2_3 r2_4 r2_5 r2_6 r2_7 r2_8 r2_9, zV2 r1_7 v3_0 v3_1 v3_2 r3_3 r3_4 r3_5, zVi r1_2 k4 4 f4, zVi r0_9 k5 14 o.2.2.2.2.2.2.1, zVi r3_4 k6 14 f6, zVi r0_4 k7 14 o.2.2.2.2.2.2.2.1, zV7 r0_0 r8_0 o.2.2.2.2.2.2.2.2.1 o.2.2.2.2.2.2.2.2.2.1, zVi r3_3 k9 14 f9, zVi r2_3 k10 14 f10, zVi r2_8 k11 28 f11, zVl r8_0 k12 14 o.2.2.2.2.2.2.2.2.2.2.1, zVi r2_9 k13 28 f13, zV6 r1_8 r14_0 r14_1 r14_2, zVl r14_0 k15 14 f15, zVl r14_1 k16 14 f16, zVi r1_3 k17 4 f17, zVi r2_5 k18 14 f18, zVi r1_4 k19 4 f19, zVi r0_5 k20 14 o.2.2.2.2.2.2.2.2.2.2.2.1, zVi r0_6 k21 28 o.2.2.2.2.2.2.2.2.2.2.2.2.1, zVi r0_7 k22 28 o.2.2.2.2.2.2.2.2.2.2.2.2.2] [(k4, .int), (k5, .int), (k6, .int), (k7, .boolean), (k9, .int), (k10, .int), (k11, .int), (k12, .long), (k13, .int), (k15, .long), (k16, .long), (k17, .int), (k18, .int), (k19, .int), (k20, .int), (k21, .int), (k22, .int)] sz := by
  refine zgoNi (cc := cX3_goByHalves) (maxL := 4) (ret := (some .boolean)) (C0 := RX3) (lv0 := [(0, .ref h0), (1, .ref h1)]) zpl_X3 rfl rfl rfl (Nat.le_of_ble_eq_true rfl) ?_
  intro p e s m below meth c A ls Q hN hx hb hr hts hown hlocks hml hP hK hD hA hS hl hQ
  have hn0 : va_Nw (.methodLinkNest RX7 90 yX11_divides RX11) s := hN.1
  unfold fn_X3_goByHalves at hfn
  refine lv_aload_n hx hb dX3_goByHalves_0 rfl (lv_at hl 1 rfl) ?_
  obtain ⟨o_1, hqo_1, hfn⟩ := zb_s hfn
  refine zcVb (ci := 9) (rest := []) (pc' := 4) (ws' := [zV3 h0 r0_0 r0_1 v0_2 v0_3 r0_4 r0_5 r0_6 r0_7 v0_8 r0_9 v0_10 v0_11 v0_12 v0_13 v0_14 v0_15, zV9 h1 v1_0 r1_1 r1_2 r1_3 r1_4 v1_5 r1_6 r1_7 r1_8, zV4 r1_6 v2_0 v2_1 r2_2 r2_3 r2_4 r2_5 r2_6 r2_7 r2_8 r2_9, zV2 r1_7 v3_0 v3_1 v3_2 r3_3 r3_4 r3_5, zVi r1_2 k4 4 f4, zVi r0_9 k5 14 f5, zVi r3_4 k6 14 f6, zVi r0_4 k7 14 f7, zV7 r0_0 r8_0 v8_1 v8_2, zVi r3_3 k9 14 f9, zVi r2_3 k10 14 f10, zVi r2_8 k11 28 f11, zVl r8_0 k12 14 f12, zVi r2_9 k13 28 f13, zV6 r1_8 r14_0 r14_1 r14_2, zVl r14_0 k15 14 f15, zVl r14_1 k16 14 f16, zVi r1_3 k17 4 f17, zVi r2_5 k18 14 f18, zVi r1_4 k19 4 f19, zVi r0_5 k20 14 f20, zVi r0_6 k21 28 f21, zVi r0_7 k22 28 f22]) hP hK hD hS hA ⟨hx, hb, hml, hown, hts⟩ (zf_X9_hasChoice l dC dI h1 v1_0 r1_1 r1_2 r1_3 r1_4 v1_5 r1_6 r1_7 r1_8 v2_0 v2_1 r2_2 r2_3 r2_4 r2_5 r2_6 r2_7 r2_8 r2_9 v3_0 v3_1 v3_2 r3_3 r3_4 r3_5 o_1 hqo_1 s.heap.size) (cwV 0 hts gX3_goByHalves_X9_hasChoice rfl rfl rfl zhd_X9_hasChoice ⟨Nat.le_of_ble_eq_true rfl, Nat.le_of_ble_eq_true rfl⟩) [1, 2, 3] rfl (of_decide_eq_true rfl) [] rfl rfl rfl rfl hl.1 rfl (Nat.le_of_ble_eq_true rfl) dX3_goByHalves_1 ⟨Nat.le_of_ble_eq_true rfl, Nat.le_of_ble_eq_true rfl⟩ [none, some 0, some 1, some 2] (of_decide_eq_true rfl) (of_decide_eq_true rfl) rfl rfl rfl (fun H locs hw_4n hP hD hS => ?_)
  refine lv_if_ne (tgt := 9) hx hb dX3_goByHalves_4 (of_decide_eq_true rfl) (fun c_5 => ?_) (fun c_5 => ?_)
  · have hfn := (if_neg c_5).symm.trans hfn
    refine lv_aload_n hx hb dX3_goByHalves_9 rfl (lv_at hl 0 rfl) ?_
    refine va_get (D := (dC, dI)) (ci := 3) (v := .int v0_2) (C := RX3) (T := TX3) (N := 16) hx hb hts zn_X3_goByHalves_X3 hown hK hP 0 rfl rfl 2 (of_decide_eq_true rfl) (hts (.fieldLink RX3 45 "ShortEnough$LocalSearch" "ready" "Z") zw_X3_goByHalves_280) (fun _ h9 => h9) rfl dX3_goByHalves_10 ?_
    refine lv_if_eq (tgt := 21) hx hb dX3_goByHalves_13 (of_decide_eq_true rfl) (fun c_6 => ?_) (fun c_6 => ?_)
    · have hfn := (if_pos c_6).symm.trans hfn
      refine lv_aload_n hx hb dX3_goByHalves_21 rfl (lv_at hl 0 rfl) ?_
      refine lv_iconst (v := 1) hx hb dX3_goByHalves_22 zci_1 ?_
      refine va_put (D := (dC, dI)) (ci := 3) (v := .int 1) (ty := .boolean) (C := RX3) (T := TX3) (N := 16) hx hb hts zn_X3_goByHalves_X3 tyX3 tyX3_ok nmX3 hown hK hP hD hS 0 rfl rfl 2 (of_decide_eq_true rfl) (hts (.fieldLink RX3 45 "ShortEnough$LocalSearch" "ready" "Z") zw_X3_goByHalves_280) (fun _ h9 => h9) rfl (tyX3_ok 2 (of_decide_eq_true rfl)) rfl rfl (Nat.le_of_ble_eq_true rfl) dX3_goByHalves_23 (fun H locs hP hD hS => ?_)
      have hP : va_P (dC, dI) vwCl [zV3 h0 r0_0 r0_1 1 v0_3 r0_4 r0_5 r0_6 r0_7 v0_8 r0_9 v0_10 v0_11 v0_12 v0_13 v0_14 v0_15, zV9 h1 v1_0 r1_1 r1_2 r1_3 r1_4 v1_5 r1_6 r1_7 r1_8, zV4 r1_6 v2_0 v2_1 r2_2 r2_3 r2_4 r2_5 r2_6 r2_7 r2_8 r2_9, zV2 r1_7 v3_0 v3_1 v3_2 r3_3 r3_4 r3_5, zVi r1_2 k4 4 f4, zVi r0_9 k5 14 f5, zVi r3_4 k6 14 f6, zVi r0_4 k7 14 f7, zV7 r0_0 r8_0 v8_1 v8_2, zVi r3_3 k9 14 f9, zVi r2_3 k10 14 f10, zVi r2_8 k11 28 f11, zVl r8_0 k12 14 f12, zVi r2_9 k13 28 f13, zV6 r1_8 r14_0 r14_1 r14_2, zVl r14_0 k15 14 f15, zVl r14_1 k16 14 f16, zVi r1_3 k17 4 f17, zVi r2_5 k18 14 f18, zVi r1_4 k19 4 f19, zVi r0_5 k20 14 f20, zVi r0_6 k21 28 f21, zVi r0_7 k22 28 f22] H := hP
      have hD := zDW hD hP rfl
      refine lv_aload_n hx hb dX3_goByHalves_26 rfl (lv_at hl 1 rfl) ?_
      obtain ⟨o_7, hqo_7, hfn⟩ := zb_s hfn
      refine zcVi (ci := 9) (rest := []) (pc' := 30) (ws' := [zV3 h0 r0_0 r0_1 1 v0_3 r0_4 r0_5 r0_6 r0_7 v0_8 r0_9 v0_10 v0_11 v0_12 v0_13 v0_14 v0_15, zV9 h1 v1_0 r1_1 r1_2 r1_3 r1_4 v1_5 r1_6 r1_7 r1_8, zV4 r1_6 v2_0 v2_1 r2_2 r2_3 r2_4 r2_5 r2_6 r2_7 r2_8 r2_9, zV2 r1_7 v3_0 v3_1 v3_2 r3_3 r3_4 r3_5, zVi r1_2 k4 4 f4, zVi r0_9 k5 14 f5, zVi r3_4 k6 14 f6, zVi r0_4 k7 14 f7, zV7 r0_0 r8_0 v8_1 v8_2, zVi r3_3 k9 14 f9, zVi r2_3 k10 14 f10, zVi r2_8 k11 28 f11, zVl r8_0 k12 14 f12, zVi r2_9 k13 28 f13, zV6 r1_8 r14_0 r14_1 r14_2, zVl r14_0 k15 14 f15, zVl r14_1 k16 14 f16, zVi r1_3 k17 4 f17, zVi r2_5 k18 14 f18, zVi r1_4 k19 4 f19, zVi r0_5 k20 14 f20, zVi r0_6 k21 28 f21, zVi r0_7 k22 28 f22]) hP hK hD hS hA ⟨hx, hb, hml, hown, hts⟩ (zf_X9_finestFormat l dC dI h1 v1_0 r1_1 r1_2 r1_3 r1_4 v1_5 r1_6 r1_7 r1_8 k4 f4 o_7 hqo_7 H.size) (cwV 0 hts gX3_goByHalves_X9_finestFormat rfl rfl rfl zhd_X9_finestFormat ⟨Nat.le_of_ble_eq_true rfl, Nat.le_of_ble_eq_true rfl⟩) [1, 4] rfl (of_decide_eq_true rfl) [0] rfl rfl rfl rfl hl.1 rfl (Nat.le_of_ble_eq_true rfl) dX3_goByHalves_27 ⟨Nat.le_of_ble_eq_true rfl, Nat.le_of_ble_eq_true rfl⟩ [none, some 0, none, none, some 1] (of_decide_eq_true rfl) (of_decide_eq_true rfl) rfl rfl rfl (fun H locs hP hD hS => ?_)
      refine lv_istore_n (lv' := [(2, .int o_7), (0, .ref h0), (1, .ref h1)]) hx hb dX3_goByHalves_30 rfl hl (of_decide_eq_true rfl) rfl (fun ls hl => ?_)
      refine lv_aload_n hx hb dX3_goByHalves_31 rfl (lv_at hl 2 rfl) ?_
      refine va_get (D := (dC, dI)) (ci := 9) (v := .ref r1_7) (C := RX9) (T := TX9) (N := 9) hx hb hts zn_X3_goByHalves_X9 hown hK hP 1 rfl rfl 7 (of_decide_eq_true rfl) (hts (.fieldLink RX3 62 "ShortEnough$Task" "groups" "LShortEnough$Groups;") zw_X3_goByHalves_285) (fun _ h9 => h9) rfl dX3_goByHalves_32 ?_
      refine lv_aload_n hx hb dX3_goByHalves_35 rfl (lv_at hl 1 rfl) ?_
      refine va_get (D := (dC, dI)) (ci := 3) (v := .ref r0_9) (C := RX3) (T := TX3) (N := 16) hx hb hts zn_X3_goByHalves_X3 hown hK hP 0 rfl rfl 9 (of_decide_eq_true rfl) (hts (.fieldLink RX3 35 "ShortEnough$LocalSearch" "row" "[I") zw_X3_goByHalves_286) (fun _ h9 => h9) rfl dX3_goByHalves_36 ?_
      refine lv_iload_n hx hb dX3_goByHalves_39 rfl (lv_at hl 0 rfl) ?_
      obtain ⟨o_11, hqo_11, hfn⟩ := zb_s hfn
      refine zcVv (ci := 2) (rest := []) (pc' := 43) (ws' := [zV3 h0 r0_0 r0_1 1 v0_3 r0_4 r0_5 r0_6 r0_7 v0_8 r0_9 v0_10 v0_11 v0_12 v0_13 v0_14 v0_15, zV9 h1 v1_0 r1_1 r1_2 r1_3 r1_4 v1_5 r1_6 r1_7 r1_8, zV4 r1_6 v2_0 v2_1 r2_2 r2_3 r2_4 r2_5 r2_6 r2_7 r2_8 r2_9, zV2 r1_7 v3_0 v3_1 v3_2 r3_3 r3_4 r3_5, zVi r1_2 k4 4 f4, zVi r0_9 k5 14 o_11, zVi r3_4 k6 14 f6, zVi r0_4 k7 14 f7, zV7 r0_0 r8_0 v8_1 v8_2, zVi r3_3 k9 14 f9, zVi r2_3 k10 14 f10, zVi r2_8 k11 28 f11, zVl r8_0 k12 14 f12, zVi r2_9 k13 28 f13, zV6 r1_8 r14_0 r14_1 r14_2, zVl r14_0 k15 14 f15, zVl r14_1 k16 14 f16, zVi r1_3 k17 4 f17, zVi r2_5 k18 14 f18, zVi r1_4 k19 4 f19, zVi r0_5 k20 14 f20, zVi r0_6 k21 28 f21, zVi r0_7 k22 28 f22]) hP hK hD hS hA ⟨hx, hb, hml, hown, hts⟩ (zf_X2_fillFree l dC dI r1_7 r0_9 o_7 v3_0 v3_1 v3_2 r3_3 r3_4 r3_5 k5 f5 k6 f6 o_11 hqo_11 H.size) (cwV 2 hts gX3_goByHalves_X2_fillFree rfl rfl rfl zhd_X2_fillFree ⟨Nat.le_of_ble_eq_true rfl, Nat.le_of_ble_eq_true rfl⟩) [3, 5, 6] rfl (of_decide_eq_true rfl) [1, 2] rfl rfl rfl rfl hl.1 rfl (Nat.le_of_ble_eq_true rfl) dX3_goByHalves_40 ⟨Nat.le_of_ble_eq_true rfl, Nat.le_of_ble_eq_true rfl⟩ [none, none, none, some 0, none, some 1, some 2] (of_decide_eq_true rfl) (of_decide_eq_true rfl) rfl rfl rfl (fun H locs hP hD hS => ?_)
      refine lv_iconst (v := 0) hx hb dX3_goByHalves_43 zci_0 ?_
      refine lv_istore_n (lv' := [(3, .int 0), (2, .int o_7), (0, .ref h0), (1, .ref h1)]) hx hb dX3_goByHalves_44 rfl hl (of_decide_eq_true rfl) rfl (fun ls hl => ?_)
      obtain ⟨bd_15, ebd_15, hfn⟩ := zl_g hfn
      have lp_15 : ∀ (n : Nat) (s_15 : Int32 × (Nat → Int32)) (H : Heap) (locs : List Loc) (ls : Array Slot), zl bd_15 n s_15 = some o → va_P (dC, dI) vwCl [zV3 h0 r0_0 r0_1 1 v0_3 r0_4 r0_5 r0_6 r0_7 v0_8 r0_9 v0_10 v0_11 v0_12 v0_13 v0_14 v0_15, zV9 h1 v1_0 r1_1 r1_2 r1_3 r1_4 v1_5 r1_6 r1_7 r1_8, zV4 r1_6 v2_0 v2_1 r2_2 r2_3 r2_4 r2_5 r2_6 r2_7 r2_8 r2_9, zV2 r1_7 v3_0 v3_1 v3_2 r3_3 r3_4 r3_5, zVi r1_2 k4 4 f4, zVi r0_9 k5 14 o_11, zVi r3_4 k6 14 f6, zVi r0_4 k7 14 s_15.2, zV7 r0_0 r8_0 v8_1 v8_2, zVi r3_3 k9 14 f9, zVi r2_3 k10 14 f10, zVi r2_8 k11 28 f11, zVl r8_0 k12 14 f12, zVi r2_9 k13 28 f13, zV6 r1_8 r14_0 r14_1 r14_2, zVl r14_0 k15 14 f15, zVl r14_1 k16 14 f16, zVi r1_3 k17 4 f17, zVi r2_5 k18 14 f18, zVi r1_4 k19 4 f19, zVi r0_5 k20 14 f20, zVi r0_6 k21 28 f21, zVi r0_7 k22 28 f22] H → va_D A [zV3 h0 r0_0 r0_1 1 v0_3 r0_4 r0_5 r0_6 r0_7 v0_8 r0_9 v0_10 v0_11 v0_12 v0_13 v0_14 v0_15, zV9 h1 v1_0 r1_1 r1_2 r1_3 r1_4 v1_5 r1_6 r1_7 r1_8, zV4 r1_6 v2_0 v2_1 r2_2 r2_3 r2_4 r2_5 r2_6 r2_7 r2_8 r2_9, zV2 r1_7 v3_0 v3_1 v3_2 r3_3 r3_4 r3_5, zVi r1_2 k4 4 f4, zVi r0_9 k5 14 o_11, zVi r3_4 k6 14 f6, zVi r0_4 k7 14 s_15.2, zV7 r0_0 r8_0 v8_1 v8_2, zVi r3_3 k9 14 f9, zVi r2_3 k10 14 f10, zVi r2_8 k11 28 f11, zVl r8_0 k12 14 f12, zVi r2_9 k13 28 f13, zV6 r1_8 r14_0 r14_1 r14_2, zVl r14_0 k15 14 f15, zVl r14_1 k16 14 f16, zVi r1_3 k17 4 f17, zVi r2_5 k18 14 f18, zVi r1_4 k19 4 f19, zVi r0_5 k20 14 f20, zVi r0_6 k21 28 f21, zVi r0_7 k22 28 f22] → va_S A s.heap H locs → lv_has ls 4 [(3, .int s_15.1), (2, .int o_7), (0, .ref h0), (1, .ref h1)] → W p l e (headSpec wsX3_goByHalves ({ frames := 6, cells := 0, slots := 0, locals := 180 })).room s m ([.ref h0, .ref h1] : List Value).toArray below meth c H locs 0 0 Q (F0 m 45 ls []) := by
        intro n
        induction n with
        | zero => exact fun _ _ _ _ hfn => (zl_0 hfn).elim
        | succ n ih_15 =>
          intro s_15 H locs ls hfn hP hD hS hl
          have hfn := zl_s ebd_15 hfn
          refine lv_iload_n hx hb dX3_goByHalves_45 rfl (lv_at hl 0 rfl) ?_
          refine lv_bipush (v := 14) hx hb dX3_goByHalves_46 zcb_14 ?_
          refine lv_icmp_ge (tgt := 64) hx hb dX3_goByHalves_48 (of_decide_eq_true rfl) (fun c_16 => ?_) (fun c_16 => ?_)
          · have hfn := (if_pos c_16).symm.trans hfn
            refine lv_aload_n hx hb dX3_goByHalves_64 rfl (lv_at hl 2 rfl) ?_
            refine lv_iconst (v := 1) hx hb dX3_goByHalves_65 zci_1 ?_
            refine va_put (D := (dC, dI)) (ci := 3) (v := .int 1) (ty := .int) (C := RX3) (T := TX3) (N := 16) hx hb hts zn_X3_goByHalves_X3 tyX3 tyX3_ok nmX3 hown hK hP hD hS 0 rfl rfl 11 (of_decide_eq_true rfl) (hts (.fieldLink RX3 72 "ShortEnough$LocalSearch" "tries" "I") zw_X3_goByHalves_288) (fun _ h9 => h9) rfl (tyX3_ok 11 (of_decide_eq_true rfl)) rfl rfl (Nat.le_of_ble_eq_true rfl) dX3_goByHalves_66 (fun H locs hP hD hS => ?_)
            have hP : va_P (dC, dI) vwCl [zV3 h0 r0_0 r0_1 1 v0_3 r0_4 r0_5 r0_6 r0_7 v0_8 r0_9 v0_10 1 v0_12 v0_13 v0_14 v0_15, zV9 h1 v1_0 r1_1 r1_2 r1_3 r1_4 v1_5 r1_6 r1_7 r1_8, zV4 r1_6 v2_0 v2_1 r2_2 r2_3 r2_4 r2_5 r2_6 r2_7 r2_8 r2_9, zV2 r1_7 v3_0 v3_1 v3_2 r3_3 r3_4 r3_5, zVi r1_2 k4 4 f4, zVi r0_9 k5 14 o_11, zVi r3_4 k6 14 f6, zVi r0_4 k7 14 s_15.2, zV7 r0_0 r8_0 v8_1 v8_2, zVi r3_3 k9 14 f9, zVi r2_3 k10 14 f10, zVi r2_8 k11 28 f11, zVl r8_0 k12 14 f12, zVi r2_9 k13 28 f13, zV6 r1_8 r14_0 r14_1 r14_2, zVl r14_0 k15 14 f15, zVl r14_1 k16 14 f16, zVi r1_3 k17 4 f17, zVi r2_5 k18 14 f18, zVi r1_4 k19 4 f19, zVi r0_5 k20 14 f20, zVi r0_6 k21 28 f21, zVi r0_7 k22 28 f22] H := hP
            have hD := zDW hD hP rfl
            refine lv_aload_n hx hb dX3_goByHalves_69 rfl (lv_at hl 2 rfl) ?_
            refine lv_aload_n hx hb dX3_goByHalves_70 rfl (lv_at hl 2 rfl) ?_
            refine va_get (D := (dC, dI)) (ci := 3) (v := .ref r0_0) (C := RX3) (T := TX3) (N := 16) hx hb hts zn_X3_goByHalves_X3 hown hK hP 0 rfl rfl 0 (of_decide_eq_true rfl) (hts (.fieldLink RX3 12 "ShortEnough$LocalSearch" "reckoning" "LShortEnough$Reckoning;") zw_X3_goByHalves_289) (fun _ h9 => h9) rfl dX3_goByHalves_71 ?_
            refine lv_aload_n hx hb dX3_goByHalves_74 rfl (lv_at hl 3 rfl) ?_
            refine lv_aload_n hx hb dX3_goByHalves_75 rfl (lv_at hl 3 rfl) ?_
            refine va_get (D := (dC, dI)) (ci := 9) (v := .ref r1_8) (C := RX9) (T := TX9) (N := 9) hx hb hts zn_X3_goByHalves_X9 hown hK hP 1 rfl rfl 8 (of_decide_eq_true rfl) (hts (.fieldLink RX3 75 "ShortEnough$Task" "ranges" "LShortEnough$Ranges;") zw_X3_goByHalves_290) (fun _ h9 => h9) rfl dX3_goByHalves_76 ?_
            refine lv_aload_n hx hb dX3_goByHalves_79 rfl (lv_at hl 2 rfl) ?_
            refine va_get (D := (dC, dI)) (ci := 3) (v := .ref r0_9) (C := RX3) (T := TX3) (N := 16) hx hb hts zn_X3_goByHalves_X3 hown hK hP 0 rfl rfl 9 (of_decide_eq_true rfl) (hts (.fieldLink RX3 35 "ShortEnough$LocalSearch" "row" "[I") zw_X3_goByHalves_286) (fun _ h9 => h9) rfl dX3_goByHalves_80 ?_
            obtain ⟨o_17, hqo_17, hfn⟩ := zb_s hfn
            refine zcNVb (ci := 7) (rest := [.ref h0]) (pc' := 86) (ws' := [zV3 h0 r0_0 r0_1 1 v0_3 r0_4 r0_5 r0_6 r0_7 v0_8 r0_9 v0_10 1 v0_12 v0_13 v0_14 v0_15, zV9 h1 v1_0 r1_1 r1_2 r1_3 r1_4 v1_5 r1_6 r1_7 r1_8, zV4 r1_6 v2_0 v2_1 r2_2 r2_3 r2_4 r2_5 r2_6 r2_7 r2_8 r2_9, zV2 r1_7 v3_0 v3_1 v3_2 r3_3 r3_4 r3_5, zVi r1_2 k4 4 f4, zVi r0_9 k5 14 o_11, zVi r3_4 k6 14 f6, zVi r0_4 k7 14 s_15.2, zV7 r0_0 r8_0 o_17.2.1 o_17.2.2.1, zVi r3_3 k9 14 f9, zVi r2_3 k10 14 f10, zVi r2_8 k11 28 f11, zVl r8_0 k12 14 o_17.2.2.2, zVi r2_9 k13 28 f13, zV6 r1_8 r14_0 r14_1 r14_2, zVl r14_0 k15 14 f15, zVl r14_1 k16 14 f16, zVi r1_3 k17 4 f17, zVi r2_5 k18 14 f18, zVi r1_4 k19 4 f19, zVi r0_5 k20 14 f20, zVi r0_6 k21 28 f21, zVi r0_7 k22 28 f22]) hP hK hD hS hA ⟨hx, hb, hml, hown, hts⟩ (zf_X7_reckon l dC dI r0_0 h1 r1_8 r0_9 r8_0 v8_1 v8_2 v1_0 r1_1 r1_2 r1_3 r1_4 v1_5 r1_6 r1_7 r1_8 v2_0 v2_1 r2_2 r2_3 r2_4 r2_5 r2_6 r2_7 r2_8 r2_9 v3_0 v3_1 v3_2 r3_3 r3_4 r3_5 k9 f9 k5 o_11 k4 f4 k10 f10 k11 f11 k12 f12 k13 f13 r14_0 r14_1 r14_2 k15 f15 k16 f16 k17 f17 k18 f18 o_17 hqo_17 H.size) ⟨hn0, trivial⟩ (cwV 3 hts gX3_goByHalves_X7_reckon rfl rfl rfl zhd_X7_reckon ⟨Nat.le_of_ble_eq_true rfl, Nat.le_of_ble_eq_true rfl⟩) [8, 1, 2, 3, 9, 5, 4, 10, 11, 12, 13, 14, 15, 16, 17, 18] rfl (of_decide_eq_true rfl) [4, 1, 0, 5, 6, 7, 8, 9, 10, 11, 12] rfl rfl rfl rfl hl.1 rfl (Nat.le_of_ble_eq_true rfl) dX3_goByHalves_83 ⟨Nat.le_of_ble_eq_true rfl, Nat.le_of_ble_eq_true rfl⟩ [none, some 1, some 2, some 3, some 6, some 5, none, none, some 0, some 4, some 7, some 8, some 9, some 10, some 11, some 12, some 13, some 14, some 15] (of_decide_eq_true rfl) (of_decide_eq_true rfl) rfl rfl rfl (fun H locs hw_20n hP hD hS => ?_)
            refine va_put (D := (dC, dI)) (ci := 3) (v := .int o_17.1) (ty := .boolean) (C := RX3) (T := TX3) (N := 16) hx hb hts zn_X3_goByHalves_X3 tyX3 tyX3_ok nmX3 hown hK hP hD hS 0 rfl rfl 3 (of_decide_eq_true rfl) (hts (.fieldLink RX3 55 "ShortEnough$LocalSearch" "started" "Z") zw_X3_goByHalves_291) (fun _ h9 => h9) rfl (by decide +kernel) hw_20n (zfit hw_20n) (Nat.le_of_ble_eq_true rfl) dX3_goByHalves_86 (fun H locs hP hD hS => ?_)
            have hP : va_P (dC, dI) vwCl [zV3 h0 r0_0 r0_1 1 o_17.1 r0_4 r0_5 r0_6 r0_7 v0_8 r0_9 v0_10 1 v0_12 v0_13 v0_14 v0_15, zV9 h1 v1_0 r1_1 r1_2 r1_3 r1_4 v1_5 r1_6 r1_7 r1_8, zV4 r1_6 v2_0 v2_1 r2_2 r2_3 r2_4 r2_5 r2_6 r2_7 r2_8 r2_9, zV2 r1_7 v3_0 v3_1 v3_2 r3_3 r3_4 r3_5, zVi r1_2 k4 4 f4, zVi r0_9 k5 14 o_11, zVi r3_4 k6 14 f6, zVi r0_4 k7 14 s_15.2, zV7 r0_0 r8_0 o_17.2.1 o_17.2.2.1, zVi r3_3 k9 14 f9, zVi r2_3 k10 14 f10, zVi r2_8 k11 28 f11, zVl r8_0 k12 14 o_17.2.2.2, zVi r2_9 k13 28 f13, zV6 r1_8 r14_0 r14_1 r14_2, zVl r14_0 k15 14 f15, zVl r14_1 k16 14 f16, zVi r1_3 k17 4 f17, zVi r2_5 k18 14 f18, zVi r1_4 k19 4 f19, zVi r0_5 k20 14 f20, zVi r0_6 k21 28 f21, zVi r0_7 k22 28 f22] H := hP
            have hD := zDW hD hP rfl
            refine lv_aload_n hx hb dX3_goByHalves_89 rfl (lv_at hl 2 rfl) ?_
            refine lv_aload_n hx hb dX3_goByHalves_90 rfl (lv_at hl 3 rfl) ?_
            refine lv_aload_n hx hb dX3_goByHalves_91 rfl (lv_at hl 2 rfl) ?_
            refine va_get (D := (dC, dI)) (ci := 3) (v := .ref r0_9) (C := RX3) (T := TX3) (N := 16) hx hb hts zn_X3_goByHalves_X3 hown hK hP 0 rfl rfl 9 (of_decide_eq_true rfl) (hts (.fieldLink RX3 35 "ShortEnough$LocalSearch" "row" "[I") zw_X3_goByHalves_286) (fun _ h9 => h9) rfl dX3_goByHalves_92 ?_
            obtain ⟨o_21, hqo_21, hfn⟩ := zb_s hfn
            refine zcVi (ci := 9) (rest := [.ref h0]) (pc' := 98) (ws' := [zV3 h0 r0_0 r0_1 1 o_17.1 r0_4 r0_5 r0_6 r0_7 v0_8 r0_9 v0_10 1 v0_12 v0_13 v0_14 v0_15, zV9 h1 v1_0 r1_1 r1_2 r1_3 r1_4 v1_5 r1_6 r1_7 r1_8, zV4 r1_6 v2_0 v2_1 r2_2 r2_3 r2_4 r2_5 r2_6 r2_7 r2_8 r2_9, zV2 r1_7 v3_0 v3_1 v3_2 r3_3 r3_4 r3_5, zVi r1_2 k4 4 f4, zVi r0_9 k5 14 o_11, zVi r3_4 k6 14 f6, zVi r0_4 k7 14 s_15.2, zV7 r0_0 r8_0 o_17.2.1 o_17.2.2.1, zVi r3_3 k9 14 f9, zVi r2_3 k10 14 f10, zVi r2_8 k11 28 f11, zVl r8_0 k12 14 o_17.2.2.2, zVi r2_9 k13 28 f13, zV6 r1_8 r14_0 r14_1 r14_2, zVl r14_0 k15 14 f15, zVl r14_1 k16 14 f16, zVi r1_3 k17 4 f17, zVi r2_5 k18 14 f18, zVi r1_4 k19 4 f19, zVi r0_5 k20 14 f20, zVi r0_6 k21 28 f21, zVi r0_7 k22 28 f22]) hP hK hD hS hA ⟨hx, hb, hml, hown, hts⟩ (zf_X9_priceOf l dC dI h1 r0_9 v1_0 r1_1 r1_2 r1_3 r1_4 v1_5 r1_6 r1_7 r1_8 v2_0 v2_1 r2_2 r2_3 r2_4 r2_5 r2_6 r2_7 r2_8 r2_9 k11 f11 v3_0 v3_1 v3_2 r3_3 r3_4 r3_5 k9 f9 k5 o_11 k19 f19 o_21 hqo_21 H.size) (cwV 1 hts gX3_goByHalves_X9_priceOf rfl rfl rfl zhd_X9_priceOf ⟨Nat.le_of_ble_eq_true rfl, Nat.le_of_ble_eq_true rfl⟩) [1, 2, 11, 3, 9, 5, 19] rfl (of_decide_eq_true rfl) [6, 4, 1, 13] rfl rfl rfl rfl hl.1 rfl (Nat.le_of_ble_eq_true rfl) dX3_goByHalves_95 ⟨Nat.le_of_ble_eq_true rfl, Nat.le_of_ble_eq_true rfl⟩ [none, some 0, some 1, some 3, none, some 5, none, none, none, some 4, none, some 2, none, none, none, none, none, none, none, some 6] (of_decide_eq_true rfl) (of_decide_eq_true rfl) rfl rfl rfl (fun H locs hP hD hS => ?_)
            refine va_put (D := (dC, dI)) (ci := 3) (v := .int o_21) (ty := .int) (C := RX3) (T := TX3) (N := 16) hx hb hts zn_X3_goByHalves_X3 tyX3 tyX3_ok nmX3 hown hK hP hD hS 0 rfl rfl 10 (of_decide_eq_true rfl) (hts (.fieldLink RX3 87 "ShortEnough$LocalSearch" "price" "I") zw_X3_goByHalves_292) (fun _ h9 => h9) rfl (tyX3_ok 10 (of_decide_eq_true rfl)) rfl rfl (Nat.le_of_ble_eq_true rfl) dX3_goByHalves_98 (fun H locs hP hD hS => ?_)
            have hP : va_P (dC, dI) vwCl [zV3 h0 r0_0 r0_1 1 o_17.1 r0_4 r0_5 r0_6 r0_7 v0_8 r0_9 o_21 1 v0_12 v0_13 v0_14 v0_15, zV9 h1 v1_0 r1_1 r1_2 r1_3 r1_4 v1_5 r1_6 r1_7 r1_8, zV4 r1_6 v2_0 v2_1 r2_2 r2_3 r2_4 r2_5 r2_6 r2_7 r2_8 r2_9, zV2 r1_7 v3_0 v3_1 v3_2 r3_3 r3_4 r3_5, zVi r1_2 k4 4 f4, zVi r0_9 k5 14 o_11, zVi r3_4 k6 14 f6, zVi r0_4 k7 14 s_15.2, zV7 r0_0 r8_0 o_17.2.1 o_17.2.2.1, zVi r3_3 k9 14 f9, zVi r2_3 k10 14 f10, zVi r2_8 k11 28 f11, zVl r8_0 k12 14 o_17.2.2.2, zVi r2_9 k13 28 f13, zV6 r1_8 r14_0 r14_1 r14_2, zVl r14_0 k15 14 f15, zVl r14_1 k16 14 f16, zVi r1_3 k17 4 f17, zVi r2_5 k18 14 f18, zVi r1_4 k19 4 f19, zVi r0_5 k20 14 f20, zVi r0_6 k21 28 f21, zVi r0_7 k22 28 f22] H := hP
            have hD := zDW hD hP rfl
            refine lv_iconst (v := 0) hx hb dX3_goByHalves_101 zci_0 ?_
            refine lv_istore_n (lv' := [(3, .int 0), (2, .int o_7), (0, .ref h0), (1, .ref h1)]) hx hb dX3_goByHalves_102 rfl hl (of_decide_eq_true rfl) rfl (fun ls hl => ?_)
            obtain ⟨bd_25, ebd_25, hfn⟩ := zl_g hfn
            have lp_25 : ∀ (n : Nat) (s_25 : Int32 × Int32 × Int32 × Int32 × Int32 × Int32 × (Nat → Int32) × (Nat → Int32) × (Nat → Int32) × (Nat → Int32) × (Nat → Int32) × (Nat → Int64)) (H : Heap) (locs : List Loc) (ls : Array Slot), zl bd_25 n s_25 = some o → va_P (dC, dI) vwCl [zV3 h0 r0_0 r0_1 1 o_17.1 r0_4 r0_5 r0_6 r0_7 s_25.2.2.2.1 r0_9 s_25.2.1 s_25.2.2.1 v0_12 v0_13 v0_14 v0_15, zV9 h1 v1_0 r1_1 r1_2 r1_3 r1_4 v1_5 r1_6 r1_7 r1_8, zV4 r1_6 v2_0 v2_1 r2_2 r2_3 r2_4 r2_5 r2_6 r2_7 r2_8 r2_9, zV2 r1_7 v3_0 v3_1 v3_2 r3_3 r3_4 r3_5, zVi r1_2 k4 4 f4, zVi r0_9 k5 14 s_25.2.2.2.2.2.2.2.2.2.2.1, zVi r3_4 k6 14 f6, zVi r0_4 k7 14 s_25.2.2.2.2.2.2.1, zV7 r0_0 r8_0 s_25.2.2.2.2.1 s_25.2.2.2.2.2.1, zVi r3_3 k9 14 f9, zVi r2_3 k10 14 f10, zVi r2_8 k11 28 f11, zVl r8_0 k12 14 s_25.2.2.2.2.2.2.2.2.2.2.2, zVi r2_9 k13 28 f13, zV6 r1_8 r14_0 r14_1 r14_2, zVl r14_0 k15 14 f15, zVl r14_1 k16 14 f16, zVi r1_3 k17 4 f17, zVi r2_5 k18 14 f18, zVi r1_4 k19 4 f19, zVi r0_5 k20 14 s_25.2.2.2.2.2.2.2.1, zVi r0_6 k21 28 s_25.2.2.2.2.2.2.2.2.1, zVi r0_7 k22 28 s_25.2.2.2.2.2.2.2.2.2.1] H → va_D A [zV3 h0 r0_0 r0_1 1 o_17.1 r0_4 r0_5 r0_6 r0_7 s_25.2.2.2.1 r0_9 s_25.2.1 s_25.2.2.1 v0_12 v0_13 v0_14 v0_15, zV9 h1 v1_0 r1_1 r1_2 r1_3 r1_4 v1_5 r1_6 r1_7 r1_8, zV4 r1_6 v2_0 v2_1 r2_2 r2_3 r2_4 r2_5 r2_6 r2_7 r2_8 r2_9, zV2 r1_7 v3_0 v3_1 v3_2 r3_3 r3_4 r3_5, zVi r1_2 k4 4 f4, zVi r0_9 k5 14 s_25.2.2.2.2.2.2.2.2.2.2.1, zVi r3_4 k6 14 f6, zVi r0_4 k7 14 s_25.2.2.2.2.2.2.1, zV7 r0_0 r8_0 s_25.2.2.2.2.1 s_25.2.2.2.2.2.1, zVi r3_3 k9 14 f9, zVi r2_3 k10 14 f10, zVi r2_8 k11 28 f11, zVl r8_0 k12 14 s_25.2.2.2.2.2.2.2.2.2.2.2, zVi r2_9 k13 28 f13, zV6 r1_8 r14_0 r14_1 r14_2, zVl r14_0 k15 14 f15, zVl r14_1 k16 14 f16, zVi r1_3 k17 4 f17, zVi r2_5 k18 14 f18, zVi r1_4 k19 4 f19, zVi r0_5 k20 14 s_25.2.2.2.2.2.2.2.1, zVi r0_6 k21 28 s_25.2.2.2.2.2.2.2.2.1, zVi r0_7 k22 28 s_25.2.2.2.2.2.2.2.2.2.1] → va_S A s.heap H locs → lv_has ls 4 [(3, .int s_25.1), (2, .int o_7), (0, .ref h0), (1, .ref h1)] → W p l e (headSpec wsX3_goByHalves ({ frames := 6, cells := 0, slots := 0, locals := 180 })).room s m ([.ref h0, .ref h1] : List Value).toArray below meth c H locs 0 0 Q (F0 m 103 ls []) := by
              intro n
              induction n with
              | zero => exact fun _ _ _ _ hfn => (zl_0 hfn).elim
              | succ n ih_25 =>
                intro s_25 H locs ls hfn hP hD hS hl
                have hfn := zl_s ebd_25 hfn
                refine lv_aload_n hx hb dX3_goByHalves_103 rfl (lv_at hl 2 rfl) ?_
                refine va_get (D := (dC, dI)) (ci := 3) (v := .int o_17.1) (C := RX3) (T := TX3) (N := 16) hx hb hts zn_X3_goByHalves_X3 hown hK hP 0 rfl rfl 3 (of_decide_eq_true rfl) (hts (.fieldLink RX3 55 "ShortEnough$LocalSearch" "started" "Z") zw_X3_goByHalves_291) (fun _ h9 => h9) rfl dX3_goByHalves_104 ?_
                refine lv_if_eq (tgt := 136) hx hb dX3_goByHalves_107 (of_decide_eq_true rfl) (fun c_26 => ?_) (fun c_26 => ?_)
                · have hfn := (if_pos c_26).symm.trans hfn
                  refine lv_aload_n hx hb dX3_goByHalves_136 rfl (lv_at hl 2 rfl) ?_
                  refine va_get (D := (dC, dI)) (ci := 3) (v := .int o_17.1) (C := RX3) (T := TX3) (N := 16) hx hb hts zn_X3_goByHalves_X3 hown hK hP 0 rfl rfl 3 (of_decide_eq_true rfl) (hts (.fieldLink RX3 55 "ShortEnough$LocalSearch" "started" "Z") zw_X3_goByHalves_291) (fun _ h9 => h9) rfl dX3_goByHalves_137 ?_
                  obtain ⟨h_27, hfn⟩ := zt_s hfn
                  have ho := Option.some.inj hfn
                  subst ho
                  exact zrz hx hb hr h_27 hK hP hD hS hQ ⟨rfl, h_27⟩ hlocks dX3_goByHalves_140
                have hfn := (if_neg c_26).symm.trans hfn
                refine lv_iload_n hx hb dX3_goByHalves_110 rfl (lv_at hl 0 rfl) ?_
                refine lv_aload_n hx hb dX3_goByHalves_111 rfl (lv_at hl 3 rfl) ?_
                refine va_get (D := (dC, dI)) (ci := 9) (v := .int v1_0) (C := RX9) (T := TX9) (N := 9) hx hb hts zn_X3_goByHalves_X9 hown hK hP 1 rfl rfl 0 (of_decide_eq_true rfl) (hts (.fieldLink RX3 90 "ShortEnough$Task" "formats" "I") zw_X3_goByHalves_293) (fun _ h9 => h9) rfl dX3_goByHalves_112 ?_
                refine lv_icmp_ge (tgt := 136) hx hb dX3_goByHalves_115 (of_decide_eq_true rfl) (fun c_28 => ?_) (fun c_28 => ?_)
                · have hfn := (if_pos c_28).symm.trans hfn
                  refine lv_aload_n hx hb dX3_goByHalves_136 rfl (lv_at hl 2 rfl) ?_
                  refine va_get (D := (dC, dI)) (ci := 3) (v := .int o_17.1) (C := RX3) (T := TX3) (N := 16) hx hb hts zn_X3_goByHalves_X3 hown hK hP 0 rfl rfl 3 (of_decide_eq_true rfl) (hts (.fieldLink RX3 55 "ShortEnough$LocalSearch" "started" "Z") zw_X3_goByHalves_291) (fun _ h9 => h9) rfl dX3_goByHalves_137 ?_
                  obtain ⟨h_29, hfn⟩ := zt_s hfn
                  have ho := Option.some.inj hfn
                  subst ho
                  exact zrz hx hb hr h_29 hK hP hD hS hQ ⟨rfl, h_29⟩ hlocks dX3_goByHalves_140
                have hfn := (if_neg c_28).symm.trans hfn
                refine lv_iload_n hx hb dX3_goByHalves_118 rfl (lv_at hl 0 rfl) ?_
                refine lv_iload_n hx hb dX3_goByHalves_119 rfl (lv_at hl 1 rfl) ?_
                refine lv_icmp_eq (tgt := 130) hx hb dX3_goByHalves_120 (of_decide_eq_true rfl) (fun c_30 => ?_) (fun c_30 => ?_)
                · have hfn := (if_pos c_30).symm.trans hfn
                  refine lv_iinc (v := (s_25.1 + 1)) (lv' := [(3, .int (s_25.1 + 1)), (2, .int o_7), (0, .ref h0), (1, .ref h1)]) hx hb dX3_goByHalves_130 hl (k := 0) rfl rfl (of_decide_eq_true rfl) rfl (fun ls hl => ?_)
                  refine lv_goto (tgt := 103) hx hb dX3_goByHalves_133 (of_decide_eq_true rfl) ?_
                  exact ih_25 ((s_25.1 + 1), s_25.2.1, s_25.2.2.1, s_25.2.2.2.1, s_25.2.2.2.2.1, s_25.2.2.2.2.2.1, s_25.2.2.2.2.2.2.1, s_25.2.2.2.2.2.2.2.1, s_25.2.2.2.2.2.2.2.2.1, s_25.2.2.2.2.2.2.2.2.2.1, s_25.2.2.2.2.2.2.2.2.2.2.1, s_25.2.2.2.2.2.2.2.2.2.2.2) H locs ls hfn hP hD hS (lv_sub hl [0, 1, 2, 3] rfl)
                have hfn := (if_neg c_30).symm.trans hfn
                refine lv_aload_n hx hb dX3_goByHalves_123 rfl (lv_at hl 2 rfl) ?_
                refine lv_aload_n hx hb dX3_goByHalves_124 rfl (lv_at hl 3 rfl) ?_
                refine lv_iload_n hx hb dX3_goByHalves_125 rfl (lv_at hl 0 rfl) ?_
                refine lv_iload_n hx hb dX3_goByHalves_126 rfl (lv_at hl 1 rfl) ?_
                obtain ⟨o_31, hqo_31, hfn⟩ := zb_s hfn
                refine zcNVv (ci := 3) (rest := []) (pc' := 130) (ws' := [zV3 h0 r0_0 r0_1 1 o_17.1 r0_4 r0_5 r0_6 r0_7 o_31.2.2.1 r0_9 o_31.1 o_31.2.1 v0_12 v0_13 v0_14 v0_15, zV9 h1 v1_0 r1_1 r1_2 r1_3 r1_4 v1_5 r1_6 r1_7 r1_8, zV4 r1_6 v2_0 v2_1 r2_2 r2_3 r2_4 r2_5 r2_6 r2_7 r2_8 r2_9, zV2 r1_7 v3_0 v3_1 v3_2 r3_3 r3_4 r3_5, zVi r1_2 k4 4 f4, zVi r0_9 k5 14 o_31.2.2.2.2.2.2.2.1, zVi r3_4 k6 14 f6, zVi r0_4 k7 14 o_31.2.2.2.1, zV7 r0_0 r8_0 o_31.2.2.2.2.2.2.2.2.1 o_31.2.2.2.2.2.2.2.2.2.1, zVi r3_3 k9 14 f9, zVi r2_3 k10 14 f10, zVi r2_8 k11 28 f11, zVl r8_0 k12 14 o_31.2.2.2.2.2.2.2.2.2.2, zVi r2_9 k13 28 f13, zV6 r1_8 r14_0 r14_1 r14_2, zVl r14_0 k15 14 f15, zVl r14_1 k16 14 f16, zVi r1_3 k17 4 f17, zVi r2_5 k18 14 f18, zVi r1_4 k19 4 f19, zVi r0_5 k20 14 o_31.2.2.2.2.1, zVi r0_6 k21 28 o_31.2.2.2.2.2.1, zVi r0_7 k22 28 o_31.2.2.2.2.2.2.1]) hP hK hD hS hA ⟨hx, hb, hml, hown, hts⟩ (zf_X3_halveWith l dC dI h0 h1 s_25.1 o_7 r0_0 r0_1 1 o_17.1 r0_4 r0_5 r0_6 r0_7 s_25.2.2.2.1 r0_9 s_25.2.1 s_25.2.2.1 v0_12 v0_13 v0_14 v0_15 v1_0 r1_1 r1_2 r1_3 r1_4 v1_5 r1_6 r1_7 r1_8 v3_0 v3_1 v3_2 r3_3 r3_4 r3_5 k6 f6 k7 s_25.2.2.2.2.2.2.1 k20 s_25.2.2.2.2.2.2.2.1 k21 s_25.2.2.2.2.2.2.2.2.1 k22 s_25.2.2.2.2.2.2.2.2.2.1 k5 s_25.2.2.2.2.2.2.2.2.2.2.1 v2_0 v2_1 r2_2 r2_3 r2_4 r2_5 r2_6 r2_7 r2_8 r2_9 k11 f11 k9 f9 k19 f19 r8_0 s_25.2.2.2.2.1 s_25.2.2.2.2.2.1 k4 f4 k10 f10 k12 s_25.2.2.2.2.2.2.2.2.2.2.2 k13 f13 r14_0 r14_1 r14_2 k15 f15 k16 f16 k17 f17 k18 f18 o_31 hqo_31 H.size) ⟨hn0, trivial⟩ (cwV 3 hts gX3_goByHalves_X3_halveWith rfl rfl rfl zhd_X3_halveWith ⟨Nat.le_of_ble_eq_true rfl, Nat.le_of_ble_eq_true rfl⟩) [0, 1, 3, 6, 7, 20, 21, 22, 5, 2, 11, 9, 19, 8, 4, 10, 12, 13, 14, 15, 16, 17, 18] rfl (of_decide_eq_true rfl) [2, 3, 14, 15, 16, 1, 6, 4, 13, 0, 5, 7, 8, 9, 10, 11, 12] rfl rfl rfl rfl hl.1 rfl (Nat.le_of_ble_eq_true rfl) dX3_goByHalves_127 ⟨Nat.le_of_ble_eq_true rfl, Nat.le_of_ble_eq_true rfl⟩ [some 0, some 1, some 9, some 2, some 14, some 8, some 3, some 4, some 13, some 11, some 15, some 10, some 16, some 17, some 18, some 19, some 20, some 21, some 22, some 12, some 5, some 6, some 7] (of_decide_eq_true rfl) (of_decide_eq_true rfl) rfl rfl rfl (fun H locs hP hD hS => ?_)
                refine lv_iinc (v := (s_25.1 + 1)) (lv' := [(3, .int (s_25.1 + 1)), (2, .int o_7), (0, .ref h0), (1, .ref h1)]) hx hb dX3_goByHalves_130 hl (k := 0) rfl rfl (of_decide_eq_true rfl) rfl (fun ls hl => ?_)
                refine lv_goto (tgt := 103) hx hb dX3_goByHalves_133 (of_decide_eq_true rfl) ?_
                exact ih_25 ((s_25.1 + 1), o_31.1, o_31.2.1, o_31.2.2.1, o_31.2.2.2.2.2.2.2.2.1, o_31.2.2.2.2.2.2.2.2.2.1, o_31.2.2.2.1, o_31.2.2.2.2.1, o_31.2.2.2.2.2.1, o_31.2.2.2.2.2.2.1, o_31.2.2.2.2.2.2.2.1, o_31.2.2.2.2.2.2.2.2.2.2) H locs ls hfn hP hD hS (lv_sub hl [0, 1, 2, 3] rfl)
            exact lp_25 _ (0, o_21, 1, v0_8, o_17.2.1, o_17.2.2.1, s_15.2, f20, f21, f22, o_11, o_17.2.2.2) H locs ls hfn hP hD hS (lv_sub hl [0, 1, 2, 3] rfl)
          have hfn := (if_neg c_16).symm.trans hfn
          refine lv_aload_n hx hb dX3_goByHalves_51 rfl (lv_at hl 2 rfl) ?_
          refine va_get (D := (dC, dI)) (ci := 3) (v := .ref r0_4) (C := RX3) (T := TX3) (N := 16) hx hb hts zn_X3_goByHalves_X3 hown hK hP 0 rfl rfl 4 (of_decide_eq_true rfl) (hts (.fieldLink RX3 22 "ShortEnough$LocalSearch" "changed" "[Z") zw_X3_goByHalves_287) (fun _ h9 => h9) rfl dX3_goByHalves_52 ?_
          refine lv_iload_n hx hb dX3_goByHalves_55 rfl (lv_at hl 0 rfl) ?_
          refine lv_iconst (v := 0) hx hb dX3_goByHalves_56 zci_0 ?_
          obtain ⟨h_35, hfn⟩ := zg_s hfn
          refine va_zast hx hb hK hP hD hS 7 3 rfl rfl h_35 dX3_goByHalves_57 (fun H locs hP hD hS => ?_)
          have hP : va_P (dC, dI) vwCl [zV3 h0 r0_0 r0_1 1 v0_3 r0_4 r0_5 r0_6 r0_7 v0_8 r0_9 v0_10 v0_11 v0_12 v0_13 v0_14 v0_15, zV9 h1 v1_0 r1_1 r1_2 r1_3 r1_4 v1_5 r1_6 r1_7 r1_8, zV4 r1_6 v2_0 v2_1 r2_2 r2_3 r2_4 r2_5 r2_6 r2_7 r2_8 r2_9, zV2 r1_7 v3_0 v3_1 v3_2 r3_3 r3_4 r3_5, zVi r1_2 k4 4 f4, zVi r0_9 k5 14 o_11, zVi r3_4 k6 14 f6, zVi r0_4 k7 14 (upd s_15.2 s_15.1.toNatClampNeg (vp_nar .boolean 0)), zV7 r0_0 r8_0 v8_1 v8_2, zVi r3_3 k9 14 f9, zVi r2_3 k10 14 f10, zVi r2_8 k11 28 f11, zVl r8_0 k12 14 f12, zVi r2_9 k13 28 f13, zV6 r1_8 r14_0 r14_1 r14_2, zVl r14_0 k15 14 f15, zVl r14_1 k16 14 f16, zVi r1_3 k17 4 f17, zVi r2_5 k18 14 f18, zVi r1_4 k19 4 f19, zVi r0_5 k20 14 f20, zVi r0_6 k21 28 f21, zVi r0_7 k22 28 f22] H := hP
          have hD := zDW hD hP rfl
          refine lv_iinc (v := (s_15.1 + 1)) (lv' := [(3, .int (s_15.1 + 1)), (2, .int o_7), (0, .ref h0), (1, .ref h1)]) hx hb dX3_goByHalves_58 hl (k := 0) rfl rfl (of_decide_eq_true rfl) rfl (fun ls hl => ?_)
          refine lv_goto (tgt := 45) hx hb dX3_goByHalves_61 (of_decide_eq_true rfl) ?_
          exact ih_15 ((s_15.1 + 1), (upd s_15.2 s_15.1.toNatClampNeg (vp_nar .boolean 0))) H locs ls hfn hP hD hS (lv_sub hl [0, 1, 2, 3] rfl)
      exact lp_15 _ (0, f7) H locs ls hfn hP hD hS (lv_sub hl [0, 1, 2, 3] rfl)
    have hfn := (if_neg c_6).symm.trans hfn
    refine lv_aload_n hx hb dX3_goByHalves_16 rfl (lv_at hl 0 rfl) ?_
    refine va_get (D := (dC, dI)) (ci := 3) (v := .int v0_3) (C := RX3) (T := TX3) (N := 16) hx hb hts zn_X3_goByHalves_X3 hown hK hP 0 rfl rfl 3 (of_decide_eq_true rfl) (hts (.fieldLink RX3 55 "ShortEnough$LocalSearch" "started" "Z") zw_X3_goByHalves_291) (fun _ h9 => h9) rfl dX3_goByHalves_17 ?_
    obtain ⟨h_36, hfn⟩ := zt_s hfn
    have ho := Option.some.inj hfn
    subst ho
    exact zrz hx hb hr h_36 hK hP hD hS hQ ⟨rfl, h_36⟩ hlocks dX3_goByHalves_20
  have hfn := (if_pos c_5).symm.trans hfn
  refine lv_iconst (v := 0) hx hb dX3_goByHalves_7 zci_0 ?_
  have ho := Option.some.inj hfn
  subst ho
  exact zrz hx hb hr rfl hK hP hD hS hQ ⟨rfl, zB0⟩ hlocks dX3_goByHalves_8

set_option maxHeartbeats 4000000 in
set_option maxRecDepth 100000 in
theorem zf_X11_copyChoice (l : Launch) (dC : Nat → ClassId) (dI : Nat → Nat → Nat) (h0 : Nat) (h1 : Nat) (k0 : Nat) (f0 : Nat → Int32) (k1 : Nat) (f1 : Nat → Int32) (o : (Nat → Int32)) (hfn : fn_X11_copyChoice f0 f1 = some o) (sz : Nat) : zMv l yX11_copyChoice wsX11_copyChoice ({ frames := 0, cells := 0, slots := 0, locals := 0 }) (dC, dI) vwCl [.ref h0, .ref h1] [zVi h0 k0 14 f0, zVi h1 k1 14 f1] [(k0, .int), (k1, .int)] (fun _ => True) [zVi h0 k0 14 f0, zVi h1 k1 14 o] [(k0, .int), (k1, .int)] sz := by
  refine zgov (cc := cX11_copyChoice) (maxL := 3) (ret := none) (C0 := RX11) (lv0 := [(0, .ref h0), (1, .ref h1)]) zpl_X11 rfl rfl rfl (Nat.le_of_ble_eq_true rfl) ?_
  intro p e s m below meth c A ls Q hx hb hr hts hown hlocks hml hP hK hD hA hS hl hQ
  unfold fn_X11_copyChoice at hfn
  refine lv_iconst (v := 0) hx hb dX11_copyChoice_0 zci_0 ?_
  refine lv_istore_n (lv' := [(2, .int 0), (0, .ref h0), (1, .ref h1)]) hx hb dX11_copyChoice_1 rfl hl (of_decide_eq_true rfl) rfl (fun ls hl => ?_)
  obtain ⟨bd_1, ebd_1, hfn⟩ := zl_g hfn
  have lp_1 : ∀ (n : Nat) (s_1 : Int32 × (Nat → Int32)) (H : Heap) (locs : List Loc) (ls : Array Slot), zl bd_1 n s_1 = some o → va_P (dC, dI) vwCl [zVi h0 k0 14 f0, zVi h1 k1 14 s_1.2] H → va_D A [zVi h0 k0 14 f0, zVi h1 k1 14 s_1.2] → va_S A s.heap H locs → lv_has ls 3 [(2, .int s_1.1), (0, .ref h0), (1, .ref h1)] → W p l e (headSpec wsX11_copyChoice ({ frames := 0, cells := 0, slots := 0, locals := 0 })).room s m ([.ref h0, .ref h1] : List Value).toArray below meth c H locs 0 0 Q (F0 m 2 ls []) := by
    intro n
    induction n with
    | zero => exact fun _ _ _ _ hfn => (zl_0 hfn).elim
    | succ n ih_1 =>
      intro s_1 H locs ls hfn hP hD hS hl
      have hfn := zl_s ebd_1 hfn
      refine lv_iload_n hx hb dX11_copyChoice_2 rfl (lv_at hl 0 rfl) ?_
      refine lv_bipush (v := 14) hx hb dX11_copyChoice_3 zcb_14 ?_
      refine lv_icmp_ge (tgt := 32) hx hb dX11_copyChoice_5 (of_decide_eq_true rfl) (fun c_2 => ?_) (fun c_2 => ?_)
      · have hfn := (if_pos c_2).symm.trans hfn
        have ho := Option.some.inj hfn
        subst ho
        exact zrv hx hb hr hK hP hD hS hQ trivial hlocks dX11_copyChoice_32
      have hfn := (if_neg c_2).symm.trans hfn
      refine lv_iload_n hx hb dX11_copyChoice_8 rfl (lv_at hl 0 rfl) ?_
      refine lv_aload_n hx hb dX11_copyChoice_9 rfl (lv_at hl 1 rfl) ?_
      refine va_alen (v := 14) hx hb hK hP 0 0 rfl rfl (show Int32.ofNat 14 = 14 by decide +kernel) dX11_copyChoice_10 ?_
      refine lv_icmp_ge (tgt := 32) hx hb dX11_copyChoice_11 (of_decide_eq_true rfl) (fun c_3 => ?_) (fun c_3 => ?_)
      · have hfn := (if_pos c_3).symm.trans hfn
        have ho := Option.some.inj hfn
        subst ho
        exact zrv hx hb hr hK hP hD hS hQ trivial hlocks dX11_copyChoice_32
      have hfn := (if_neg c_3).symm.trans hfn
      refine lv_iload_n hx hb dX11_copyChoice_14 rfl (lv_at hl 0 rfl) ?_
      refine lv_aload_n hx hb dX11_copyChoice_15 rfl (lv_at hl 2 rfl) ?_
      refine va_alen (v := 14) hx hb hK hP 1 1 rfl rfl (show Int32.ofNat 14 = 14 by decide +kernel) dX11_copyChoice_16 ?_
      refine lv_icmp_ge (tgt := 32) hx hb dX11_copyChoice_17 (of_decide_eq_true rfl) (fun c_4 => ?_) (fun c_4 => ?_)
      · have hfn := (if_pos c_4).symm.trans hfn
        have ho := Option.some.inj hfn
        subst ho
        exact zrv hx hb hr hK hP hD hS hQ trivial hlocks dX11_copyChoice_32
      have hfn := (if_neg c_4).symm.trans hfn
      refine lv_aload_n hx hb dX11_copyChoice_20 rfl (lv_at hl 2 rfl) ?_
      refine lv_iload_n hx hb dX11_copyChoice_21 rfl (lv_at hl 0 rfl) ?_
      refine lv_aload_n hx hb dX11_copyChoice_22 rfl (lv_at hl 1 rfl) ?_
      refine lv_iload_n hx hb dX11_copyChoice_23 rfl (lv_at hl 0 rfl) ?_
      obtain ⟨h_5, hfn⟩ := zg_s hfn
      refine va_iald hx hb hK hP 0 0 rfl rfl h_5 dX11_copyChoice_24 ?_
      refine va_iast hx hb hK hP hD hS 1 1 rfl rfl h_5 dX11_copyChoice_25 (fun H locs hP hD hS => ?_)
      have hP : va_P (dC, dI) vwCl [zVi h0 k0 14 f0, zVi h1 k1 14 (upd s_1.2 s_1.1.toNatClampNeg (f0 s_1.1.toNatClampNeg))] H := hP
      have hD := zDW hD hP rfl
      refine lv_iinc (v := (s_1.1 + 1)) (lv' := [(2, .int (s_1.1 + 1)), (0, .ref h0), (1, .ref h1)]) hx hb dX11_copyChoice_26 hl (k := 0) rfl rfl (of_decide_eq_true rfl) rfl (fun ls hl => ?_)
      refine lv_goto (tgt := 2) hx hb dX11_copyChoice_29 (of_decide_eq_true rfl) ?_
      exact ih_1 ((s_1.1 + 1), (upd s_1.2 s_1.1.toNatClampNeg (f0 s_1.1.toNatClampNeg))) H locs ls hfn hP hD hS (lv_sub hl [0, 1, 2] rfl)
  exact lp_1 _ (0, f1) s.heap [] ls hfn hP hD hS (lv_sub hl [0, 1, 2] rfl)
theorem zn_X3_lookAround_X3 : ∀ w ∈ wsX30, w ∈ wsX3_lookAround := fun _ h => List.mem_cons_of_mem _ (List.mem_append_left _ (List.mem_append_left _ (List.mem_append_left _ (List.mem_append_left _ (List.mem_append_left _ (List.mem_append_right _ h))))))
theorem zw_X3_lookAround_323 : Cond.fieldLink RX3 122 "ShortEnough$LocalSearch" "passed" "I" ∈ wsX3_lookAround := List.mem_of_getElem? (i := 1) (by decide +kernel)
theorem zw_X3_lookAround_324 : Cond.fieldLink RX3 125 "ShortEnough$LocalSearch" "cheaper" "I" ∈ wsX3_lookAround := List.mem_of_getElem? (i := 2) (by decide +kernel)
theorem zw_X3_lookAround_325 : Cond.fieldLink RX3 38 "ShortEnough$LocalSearch" "bestGroup" "I" ∈ wsX3_lookAround := List.mem_of_getElem? (i := 3) (by decide +kernel)
theorem zw_X3_lookAround_326 : Cond.fieldLink RX3 42 "ShortEnough$LocalSearch" "bestFormat" "I" ∈ wsX3_lookAround := List.mem_of_getElem? (i := 4) (by decide +kernel)
theorem zw_X3_lookAround_327 : Cond.fieldLink RX3 18 "ShortEnough$LocalSearch" "near" "[I" ∈ wsX3_lookAround := List.mem_of_getElem? (i := 5) (by decide +kernel)
theorem zw_X3_lookAround_328 : Cond.initialized RX11 ∈ wsX3_lookAround := List.mem_of_getElem? (i := 13) (by decide +kernel)
theorem zw_X3_lookAround_329 : Cond.static yX11_copyChoice ∈ wsX3_lookAround := List.mem_of_getElem? (i := 12) (by decide +kernel)
theorem zn_X3_lookAround_X9 : ∀ w ∈ wsX90, w ∈ wsX3_lookAround := fun _ h => List.mem_cons_of_mem _ (List.mem_append_left _ (List.mem_append_left _ (List.mem_append_left _ (List.mem_append_left _ (List.mem_append_right _ h)))))
theorem zw_X3_lookAround_331 : Cond.fieldLink RX3 62 "ShortEnough$Task" "groups" "LShortEnough$Groups;" ∈ wsX3_lookAround := List.mem_of_getElem? (i := 6) (by decide +kernel)
theorem zn_X3_lookAround_X2 : ∀ w ∈ wsX20, w ∈ wsX3_lookAround := fun _ h => List.mem_cons_of_mem _ (List.mem_append_left _ (List.mem_append_left _ (List.mem_append_left _ (List.mem_append_right _ h))))
theorem zw_X3_lookAround_333 : Cond.fieldLink RX3 112 "ShortEnough$Groups" "count" "I" ∈ wsX3_lookAround := List.mem_of_getElem? (i := 7) (by decide +kernel)
theorem zw_X3_lookAround_334 : Cond.fieldLink RX3 115 "ShortEnough$Groups" "fixedAs" "[I" ∈ wsX3_lookAround := List.mem_of_getElem? (i := 8) (by decide +kernel)
theorem zw_X3_lookAround_335 : Cond.fieldLink RX3 90 "ShortEnough$Task" "formats" "I" ∈ wsX3_lookAround := List.mem_of_getElem? (i := 9) (by decide +kernel)
theorem zw_X3_lookAround_336 : Cond.fieldLink RX3 12 "ShortEnough$LocalSearch" "reckoning" "LShortEnough$Reckoning;" ∈ wsX3_lookAround := List.mem_of_getElem? (i := 10) (by decide +kernel)
theorem zw_X3_lookAround_337 : Cond.fieldLink RX3 75 "ShortEnough$Task" "ranges" "LShortEnough$Ranges;" ∈ wsX3_lookAround := List.mem_of_getElem? (i := 11) (by decide +kernel)
set_option maxHeartbeats 4000000 in
set_option maxRecDepth 100000 in
theorem zf_X3_lookAround (l : Launch) (dC : Nat → ClassId) (dI : Nat → Nat → Nat) (h0 : Nat) (h1 : Nat) (h2 : Nat) (r0_0 : Nat) (r0_1 : Nat) (v0_2 : Int32) (v0_3 : Int32) (r0_4 : Nat) (r0_5 : Nat) (r0_6 : Nat) (r0_7 : Nat) (v0_8 : Int32) (r0_9 : Nat) (v0_10 : Int32) (v0_11 : Int32) (v0_12 : Int32) (v0_13 : Int32) (v0_14 : Int32) (v0_15 : Int32) (k1 : Nat) (f1 : Nat → Int32) (k2 : Nat) (f2 : Nat → Int32) (v3_0 : Int32) (r3_1 : Nat) (r3_2 : Nat) (r3_3 : Nat) (r3_4 : Nat) (v3_5 : Int32) (r3_6 : Nat) (r3_7 : Nat) (r3_8 : Nat) (v4_0 : Int32) (v4_1 : Int32) (r4_2 : Nat) (r4_3 : Nat) (r4_4 : Nat) (r4_5 : Nat) (r4_6 : Nat) (r4_7 : Nat) (r4_8 : Nat) (r4_9 : Nat) (k5 : Nat) (f5 : Nat → Int32) (v6_0 : Int32) (v6_1 : Int32) (v6_2 : Int32) (r6_3 : Nat) (r6_4 : Nat) (r6_5 : Nat) (k7 : Nat) (f7 : Nat → Int32) (k8 : Nat) (f8 : Nat → Int32) (k9 : Nat) (f9 : Nat → Int32) (r10_0 : Nat) (v10_1 : Int32) (v10_2 : Int32) (k11 : Nat) (f11 : Nat → Int32) (k12 : Nat) (f12 : Nat → Int32) (k13 : Nat) (f13 : Nat → Int64) (k14 : Nat) (f14 : Nat → Int32) (r15_0 : Nat) (r15_1 : Nat) (r15_2 : Nat) (k16 : Nat) (f16 : Nat → Int64) (k17 : Nat) (f17 : Nat → Int64) (k18 : Nat) (f18 : Nat → Int32) (k19 : Nat) (f19 : Nat → Int32) (o : Int32 × Int32 × Int32 × Int32 × (Nat → Int32) × Int32 × Int32 × (Nat → Int64)) (hfn : fn_X3_lookAround f1 f2 v3_0 v3_5 v4_0 f5 v6_0 f7 f8 f9 v10_1 v10_2 f11 f12 f13 f14 f16 f17 f18 f19 = some o) (sz : Nat) : zNv [(RX3, 128, yX11_copyChoice, RX11), (RX7, 90, yX11_divides, RX11)] l yX3_lookAround wsX3_lookAround ({ frames := 4, cells := 0, slots := 0, locals := 125 }) (dC, dI) vwCl [.ref h0, .ref h1, .ref h2] [zV3 h0 r0_0 r0_1 v0_2 v0_3 r0_4 r0_5 r0_6 r0_7 v0_8 r0_9 v0_10 v0_11 v0_12 v0_13 v0_14 v0_15, zVi h2 k1 14 f1, zVi r0_1 k2 14 f2, zV9 h1 v3_0 r3_1 r3_2 r3_3 r3_4 v3_5 r3_6 r3_7 r3_8, zV4 r3_6 v4_0 v4_1 r4_2 r4_3 r4_4 r4_5 r4_6 r4_7 r4_8 r4_9, zVi r4_8 k5 28 f5, zV2 r3_7 v6_0 v6_1 v6_2 r6_3 r6_4 r6_5, zVi r6_3 k7 14 f7, zVi r3_4 k8 4 f8, zVi r6_4 k9 14 f9, zV7 r0_0 r10_0 v10_1 v10_2, zVi r3_2 k11 4 f11, zVi r4_3 k12 14 f12, zVl r10_0 k13 14 f13, zVi r4_9 k14 28 f14, zV6 r3_8 r15_0 r15_1 r15_2, zVl r15_0 k16 14 f16, zVl r15_1 k17 14 f17, zVi r3_3 k18 4 f18, zVi r4_5 k19 14 f19] [(k1, .int), (k2, .int), (k5, .int), (k7, .int), (k8, .int), (k9, .int), (k11, .int), (k12, .int), (k13, .long), (k14, .int), (k16, .long), (k17, .long), (k18, .int), (k19, .int)] (fun _ => True) [zV3 h0 r0_0 r0_1 v0_2 v0_3 r0_4 r0_5 r0_6 r0_7 v0_8 r0_9 v0_10 v0_11 o.1 o.2.1 o.2.2.1 o.2.2.2.1, zVi h2 k1 14 f1, zVi r0_1 k2 14 o.2.2.2.2.1, zV9 h1 v3_0 r3_1 r3_2 r3_3 r3_4 v3_5 r3_6 r3_7 r3_8, zV4 r3_6 v4_0 v4_1 r4_2 r4_3 r4_4 r4_5 r4_6 r4_7 r4_8 r4_9, zVi r4_8 k5 28 f5, zV2 r3_7 v6_0 v6_1 v6_2 r6_3 r6_4 r6_5, zVi r6_3 k7 14 f7, zVi r3_4 k8 4 f8, zVi r6_4 k9 14 f9, zV7 r0_0 r10_0 o.2.2.2.2.2.1 o.2.2.2.2.2.2.1, zVi r3_2 k11 4 f11, zVi r4_3 k12 14 f12, zVl r10_0 k13 14 o.2.2.2.2.2.2.2, zVi r4_9 k14 28 f14, zV6 r3_8 r15_0 r15_1 r15_2, zVl r15_0 k16 14 f16, zVl r15_1 k17 14 f17, zVi r3_3 k18 4 f18, zVi r4_5 k19 14 f19] [(k1, .int), (k2, .int), (k5, .int), (k7, .int), (k8, .int), (k9, .int), (k11, .int), (k12, .int), (k13, .long), (k14, .int), (k16, .long), (k17, .long), (k18, .int), (k19, .int)] sz := by
  refine zgoNv (cc := cX3_lookAround) (maxL := 8) (ret := none) (C0 := RX3) (lv0 := [(0, .ref h0), (1, .ref h1), (2, .ref h2)]) zpl_X3 rfl rfl rfl (Nat.le_of_ble_eq_true rfl) ?_
  intro p e s m below meth c A ls Q hN hx hb hr hts hown hlocks hml hP hK hD hA hS hl hQ
  have hn0 : va_Nw (.methodLinkNest RX3 128 yX11_copyChoice RX11) s := hN.1
  have hn1 : va_Nw (.methodLinkNest RX7 90 yX11_divides RX11) s := hN.2.1
  unfold fn_X3_lookAround at hfn
  refine lv_aload_n hx hb dX3_lookAround_0 rfl (lv_at hl 0 rfl) ?_
  refine lv_iconst (v := 0) hx hb dX3_lookAround_1 zci_0 ?_
  refine va_put (D := (dC, dI)) (ci := 3) (v := .int 0) (ty := .int) (C := RX3) (T := TX3) (N := 16) hx hb hts zn_X3_lookAround_X3 tyX3 tyX3_ok nmX3 hown hK hP hD hS 0 rfl rfl 12 (of_decide_eq_true rfl) (hts (.fieldLink RX3 122 "ShortEnough$LocalSearch" "passed" "I") zw_X3_lookAround_323) (fun _ h9 => h9) rfl (tyX3_ok 12 (of_decide_eq_true rfl)) rfl rfl (Nat.le_of_ble_eq_true rfl) dX3_lookAround_2 (fun H locs hP hD hS => ?_)
  have hP : va_P (dC, dI) vwCl [zV3 h0 r0_0 r0_1 v0_2 v0_3 r0_4 r0_5 r0_6 r0_7 v0_8 r0_9 v0_10 v0_11 0 v0_13 v0_14 v0_15, zVi h2 k1 14 f1, zVi r0_1 k2 14 f2, zV9 h1 v3_0 r3_1 r3_2 r3_3 r3_4 v3_5 r3_6 r3_7 r3_8, zV4 r3_6 v4_0 v4_1 r4_2 r4_3 r4_4 r4_5 r4_6 r4_7 r4_8 r4_9, zVi r4_8 k5 28 f5, zV2 r3_7 v6_0 v6_1 v6_2 r6_3 r6_4 r6_5, zVi r6_3 k7 14 f7, zVi r3_4 k8 4 f8, zVi r6_4 k9 14 f9, zV7 r0_0 r10_0 v10_1 v10_2, zVi r3_2 k11 4 f11, zVi r4_3 k12 14 f12, zVl r10_0 k13 14 f13, zVi r4_9 k14 28 f14, zV6 r3_8 r15_0 r15_1 r15_2, zVl r15_0 k16 14 f16, zVl r15_1 k17 14 f17, zVi r3_3 k18 4 f18, zVi r4_5 k19 14 f19] H := hP
  have hD := zDW hD hP rfl
  refine lv_aload_n hx hb dX3_lookAround_5 rfl (lv_at hl 0 rfl) ?_
  refine lv_iconst (v := 0) hx hb dX3_lookAround_6 zci_0 ?_
  refine va_put (D := (dC, dI)) (ci := 3) (v := .int 0) (ty := .int) (C := RX3) (T := TX3) (N := 16) hx hb hts zn_X3_lookAround_X3 tyX3 tyX3_ok nmX3 hown hK hP hD hS 0 rfl rfl 13 (of_decide_eq_true rfl) (hts (.fieldLink RX3 125 "ShortEnough$LocalSearch" "cheaper" "I") zw_X3_lookAround_324) (fun _ h9 => h9) rfl (tyX3_ok 13 (of_decide_eq_true rfl)) rfl rfl (Nat.le_of_ble_eq_true rfl) dX3_lookAround_7 (fun H locs hP hD hS => ?_)
  have hP : va_P (dC, dI) vwCl [zV3 h0 r0_0 r0_1 v0_2 v0_3 r0_4 r0_5 r0_6 r0_7 v0_8 r0_9 v0_10 v0_11 0 0 v0_14 v0_15, zVi h2 k1 14 f1, zVi r0_1 k2 14 f2, zV9 h1 v3_0 r3_1 r3_2 r3_3 r3_4 v3_5 r3_6 r3_7 r3_8, zV4 r3_6 v4_0 v4_1 r4_2 r4_3 r4_4 r4_5 r4_6 r4_7 r4_8 r4_9, zVi r4_8 k5 28 f5, zV2 r3_7 v6_0 v6_1 v6_2 r6_3 r6_4 r6_5, zVi r6_3 k7 14 f7, zVi r3_4 k8 4 f8, zVi r6_4 k9 14 f9, zV7 r0_0 r10_0 v10_1 v10_2, zVi r3_2 k11 4 f11, zVi r4_3 k12 14 f12, zVl r10_0 k13 14 f13, zVi r4_9 k14 28 f14, zV6 r3_8 r15_0 r15_1 r15_2, zVl r15_0 k16 14 f16, zVl r15_1 k17 14 f17, zVi r3_3 k18 4 f18, zVi r4_5 k19 14 f19] H := hP
  have hD := zDW hD hP rfl
  refine lv_aload_n hx hb dX3_lookAround_10 rfl (lv_at hl 0 rfl) ?_
  refine lv_iconst (v := (-1)) hx hb dX3_lookAround_11 zci_m1 ?_
  refine va_put (D := (dC, dI)) (ci := 3) (v := .int (-1)) (ty := .int) (C := RX3) (T := TX3) (N := 16) hx hb hts zn_X3_lookAround_X3 tyX3 tyX3_ok nmX3 hown hK hP hD hS 0 rfl rfl 14 (of_decide_eq_true rfl) (hts (.fieldLink RX3 38 "ShortEnough$LocalSearch" "bestGroup" "I") zw_X3_lookAround_325) (fun _ h9 => h9) rfl (tyX3_ok 14 (of_decide_eq_true rfl)) rfl rfl (Nat.le_of_ble_eq_true rfl) dX3_lookAround_12 (fun H locs hP hD hS => ?_)
  have hP : va_P (dC, dI) vwCl [zV3 h0 r0_0 r0_1 v0_2 v0_3 r0_4 r0_5 r0_6 r0_7 v0_8 r0_9 v0_10 v0_11 0 0 (-1) v0_15, zVi h2 k1 14 f1, zVi r0_1 k2 14 f2, zV9 h1 v3_0 r3_1 r3_2 r3_3 r3_4 v3_5 r3_6 r3_7 r3_8, zV4 r3_6 v4_0 v4_1 r4_2 r4_3 r4_4 r4_5 r4_6 r4_7 r4_8 r4_9, zVi r4_8 k5 28 f5, zV2 r3_7 v6_0 v6_1 v6_2 r6_3 r6_4 r6_5, zVi r6_3 k7 14 f7, zVi r3_4 k8 4 f8, zVi r6_4 k9 14 f9, zV7 r0_0 r10_0 v10_1 v10_2, zVi r3_2 k11 4 f11, zVi r4_3 k12 14 f12, zVl r10_0 k13 14 f13, zVi r4_9 k14 28 f14, zV6 r3_8 r15_0 r15_1 r15_2, zVl r15_0 k16 14 f16, zVl r15_1 k17 14 f17, zVi r3_3 k18 4 f18, zVi r4_5 k19 14 f19] H := hP
  have hD := zDW hD hP rfl
  refine lv_aload_n hx hb dX3_lookAround_15 rfl (lv_at hl 0 rfl) ?_
  refine lv_iconst (v := (-1)) hx hb dX3_lookAround_16 zci_m1 ?_
  refine va_put (D := (dC, dI)) (ci := 3) (v := .int (-1)) (ty := .int) (C := RX3) (T := TX3) (N := 16) hx hb hts zn_X3_lookAround_X3 tyX3 tyX3_ok nmX3 hown hK hP hD hS 0 rfl rfl 15 (of_decide_eq_true rfl) (hts (.fieldLink RX3 42 "ShortEnough$LocalSearch" "bestFormat" "I") zw_X3_lookAround_326) (fun _ h9 => h9) rfl (tyX3_ok 15 (of_decide_eq_true rfl)) rfl rfl (Nat.le_of_ble_eq_true rfl) dX3_lookAround_17 (fun H locs hP hD hS => ?_)
  have hP : va_P (dC, dI) vwCl [zV3 h0 r0_0 r0_1 v0_2 v0_3 r0_4 r0_5 r0_6 r0_7 v0_8 r0_9 v0_10 v0_11 0 0 (-1) (-1), zVi h2 k1 14 f1, zVi r0_1 k2 14 f2, zV9 h1 v3_0 r3_1 r3_2 r3_3 r3_4 v3_5 r3_6 r3_7 r3_8, zV4 r3_6 v4_0 v4_1 r4_2 r4_3 r4_4 r4_5 r4_6 r4_7 r4_8 r4_9, zVi r4_8 k5 28 f5, zV2 r3_7 v6_0 v6_1 v6_2 r6_3 r6_4 r6_5, zVi r6_3 k7 14 f7, zVi r3_4 k8 4 f8, zVi r6_4 k9 14 f9, zV7 r0_0 r10_0 v10_1 v10_2, zVi r3_2 k11 4 f11, zVi r4_3 k12 14 f12, zVl r10_0 k13 14 f13, zVi r4_9 k14 28 f14, zV6 r3_8 r15_0 r15_1 r15_2, zVl r15_0 k16 14 f16, zVl r15_1 k17 14 f17, zVi r3_3 k18 4 f18, zVi r4_5 k19 14 f19] H := hP
  have hD := zDW hD hP rfl
  refine lv_aload_n hx hb dX3_lookAround_20 rfl (lv_at hl 2 rfl) ?_
  refine lv_aload_n hx hb dX3_lookAround_21 rfl (lv_at hl 0 rfl) ?_
  refine va_get (D := (dC, dI)) (ci := 3) (v := .ref r0_1) (C := RX3) (T := TX3) (N := 16) hx hb hts zn_X3_lookAround_X3 hown hK hP 0 rfl rfl 1 (of_decide_eq_true rfl) (hts (.fieldLink RX3 18 "ShortEnough$LocalSearch" "near" "[I") zw_X3_lookAround_327) (fun _ h9 => h9) rfl dX3_lookAround_22 ?_
  obtain ⟨o_1, hqo_1, hfn⟩ := zb_s hfn
  have hC := zC hP [1, 2] (wc := [zVi h2 k1 14 f1, zVi r0_1 k2 14 f2]) rfl
  have hPc := hP.sub [1, 2] (zfm hC)
  have hDc := hD.sub [1, 2] (of_decide_eq_true rfl) hC
  have hKc := hK.sub (tys' := [(k1, .int), (k2, .int)]) [0, 1] rfl
  have hFc := va_free hD hS hA [1, 2] hC
  refine va_callv (va_runSN (As := [.ref h2, .ref r0_1]) (rest := []) ⟨hx, hb, hml, hown, hts⟩ (zf_X11_copyChoice l dC dI h2 r0_1 k1 f1 k2 f2 o_1 hqo_1 H.size) ⟨va_cnB (host := RX11) 2 hts gX3_lookAround_X11_copyChoice_n128 rfl rfl rfl hn0 (hts (.initialized RX11) zw_X3_lookAround_328) (by decide +kernel) ⟨Nat.le_of_ble_eq_true rfl, Nat.le_of_ble_eq_true rfl⟩, (hts (.static yX11_copyChoice) zw_X3_lookAround_329), trivial⟩ ⟨fun a U g mk q => by obtain ⟨q0, q1, qP, qK, qD⟩ := q; exact ⟨q0, q1, qP, va_K.moved (u := U) (U := U.calling g mk a) (Vm.Alike.refl U.vm) qK, qD⟩, fun U hU hW => ⟨rfl, by rw [hU], by rw [hU]; exact hPc, va_K.moved hW.alike hKc, hDc.weaken (fun _ _ _ _ => trivial)⟩⟩ rfl rfl hl.1 rfl (lv_room (Nat.le_of_ble_eq_true rfl)) dX3_lookAround_25 ⟨Nat.le_of_ble_eq_true rfl, Nat.le_of_ble_eq_true rfl⟩) hS (fun q _ h => hFc q h) hFc (fun u_3 t H1 locs ht hvm hw_4 hB hz1 hk1 hS => ?_)
  obtain ⟨hP1, hK1, hD1⟩ := hB
  rw [ht] at hP1
  have hK1 := va_K.moved hvm.symm hK1
  obtain ⟨hP, hD⟩ := zjn (ws' := [zV3 h0 r0_0 r0_1 v0_2 v0_3 r0_4 r0_5 r0_6 r0_7 v0_8 r0_9 v0_10 v0_11 0 0 (-1) (-1), zVi h2 k1 14 f1, zVi r0_1 k2 14 o_1, zV9 h1 v3_0 r3_1 r3_2 r3_3 r3_4 v3_5 r3_6 r3_7 r3_8, zV4 r3_6 v4_0 v4_1 r4_2 r4_3 r4_4 r4_5 r4_6 r4_7 r4_8 r4_9, zVi r4_8 k5 28 f5, zV2 r3_7 v6_0 v6_1 v6_2 r6_3 r6_4 r6_5, zVi r6_3 k7 14 f7, zVi r3_4 k8 4 f8, zVi r6_4 k9 14 f9, zV7 r0_0 r10_0 v10_1 v10_2, zVi r3_2 k11 4 f11, zVi r4_3 k12 14 f12, zVl r10_0 k13 14 f13, zVi r4_9 k14 28 f14, zV6 r3_8 r15_0 r15_1 r15_2, zVl r15_0 k16 14 f16, zVl r15_1 k17 14 f17, zVi r3_3 k18 4 f18, zVi r4_5 k19 14 f19]) hP hD [1, 2] hC hk1 hFc hP1 hD1 [none, some 0, some 1] (of_decide_eq_true rfl) (of_decide_eq_true rfl) rfl rfl
  generalize H1 = H at hP hS ⊢
  refine lv_aload_n hx hb dX3_lookAround_28 rfl (lv_at hl 1 rfl) ?_
  refine lv_aload_n hx hb dX3_lookAround_29 rfl (lv_at hl 2 rfl) ?_
  obtain ⟨o_5, hqo_5, hfn⟩ := zb_s hfn
  refine zcVi (ci := 9) (rest := []) (pc' := 33) (ws' := [zV3 h0 r0_0 r0_1 v0_2 v0_3 r0_4 r0_5 r0_6 r0_7 v0_8 r0_9 v0_10 v0_11 0 0 (-1) (-1), zVi h2 k1 14 f1, zVi r0_1 k2 14 o_1, zV9 h1 v3_0 r3_1 r3_2 r3_3 r3_4 v3_5 r3_6 r3_7 r3_8, zV4 r3_6 v4_0 v4_1 r4_2 r4_3 r4_4 r4_5 r4_6 r4_7 r4_8 r4_9, zVi r4_8 k5 28 f5, zV2 r3_7 v6_0 v6_1 v6_2 r6_3 r6_4 r6_5, zVi r6_3 k7 14 f7, zVi r3_4 k8 4 f8, zVi r6_4 k9 14 f9, zV7 r0_0 r10_0 v10_1 v10_2, zVi r3_2 k11 4 f11, zVi r4_3 k12 14 f12, zVl r10_0 k13 14 f13, zVi r4_9 k14 28 f14, zV6 r3_8 r15_0 r15_1 r15_2, zVl r15_0 k16 14 f16, zVl r15_1 k17 14 f17, zVi r3_3 k18 4 f18, zVi r4_5 k19 14 f19]) hP hK hD hS hA ⟨hx, hb, hml, hown, hts⟩ (zf_X9_priceOf l dC dI h1 h2 v3_0 r3_1 r3_2 r3_3 r3_4 v3_5 r3_6 r3_7 r3_8 v4_0 v4_1 r4_2 r4_3 r4_4 r4_5 r4_6 r4_7 r4_8 r4_9 k5 f5 v6_0 v6_1 v6_2 r6_3 r6_4 r6_5 k7 f7 k1 f1 k8 f8 o_5 hqo_5 H.size) (cwV 1 hts gX3_lookAround_X9_priceOf rfl rfl rfl zhd_X9_priceOf ⟨Nat.le_of_ble_eq_true rfl, Nat.le_of_ble_eq_true rfl⟩) [3, 4, 5, 6, 7, 1, 8] rfl (of_decide_eq_true rfl) [2, 3, 0, 4] rfl rfl rfl rfl hl.1 rfl (Nat.le_of_ble_eq_true rfl) dX3_lookAround_30 ⟨Nat.le_of_ble_eq_true rfl, Nat.le_of_ble_eq_true rfl⟩ [none, some 5, none, some 0, some 1, some 2, some 3, some 4, some 6] (of_decide_eq_true rfl) (of_decide_eq_true rfl) rfl rfl rfl (fun H locs hP hD hS => ?_)
  refine lv_istore_n (lv' := [(3, .int o_5), (0, .ref h0), (1, .ref h1), (2, .ref h2)]) hx hb dX3_lookAround_33 rfl hl (of_decide_eq_true rfl) rfl (fun ls hl => ?_)
  refine lv_iload_n hx hb dX3_lookAround_34 rfl (lv_at hl 0 rfl) ?_
  refine lv_istore (lv' := [(4, .int o_5), (3, .int o_5), (0, .ref h0), (1, .ref h1), (2, .ref h2)]) hx hb dX3_lookAround_35 hl (of_decide_eq_true rfl) rfl (fun ls hl => ?_)
  refine lv_iconst (v := 0) hx hb dX3_lookAround_37 zci_0 ?_
  refine lv_istore (lv' := [(5, .int 0), (4, .int o_5), (3, .int o_5), (0, .ref h0), (1, .ref h1), (2, .ref h2)]) hx hb dX3_lookAround_38 hl (of_decide_eq_true rfl) rfl (fun ls hl => ?_)
  obtain ⟨bd_9, ebd_9, hfn⟩ := zl_g hfn
  have lp_9 : ∀ (n : Nat) (s_9 : Int32 × Int32 × Int32 × Int32 × Int32 × Int32 × Int32 × Int32 × (Nat → Int32) × (Nat → Int64)) (H : Heap) (locs : List Loc) (ls : Array Slot), zl bd_9 n s_9 = some o → va_P (dC, dI) vwCl [zV3 h0 r0_0 r0_1 v0_2 v0_3 r0_4 r0_5 r0_6 r0_7 v0_8 r0_9 v0_10 v0_11 s_9.2.2.1 s_9.2.2.2.1 s_9.2.2.2.2.1 s_9.2.2.2.2.2.1, zVi h2 k1 14 f1, zVi r0_1 k2 14 s_9.2.2.2.2.2.2.2.2.1, zV9 h1 v3_0 r3_1 r3_2 r3_3 r3_4 v3_5 r3_6 r3_7 r3_8, zV4 r3_6 v4_0 v4_1 r4_2 r4_3 r4_4 r4_5 r4_6 r4_7 r4_8 r4_9, zVi r4_8 k5 28 f5, zV2 r3_7 v6_0 v6_1 v6_2 r6_3 r6_4 r6_5, zVi r6_3 k7 14 f7, zVi r3_4 k8 4 f8, zVi r6_4 k9 14 f9, zV7 r0_0 r10_0 s_9.2.2.2.2.2.2.1 s_9.2.2.2.2.2.2.2.1, zVi r3_2 k11 4 f11, zVi r4_3 k12 14 f12, zVl r10_0 k13 14 s_9.2.2.2.2.2.2.2.2.2, zVi r4_9 k14 28 f14, zV6 r3_8 r15_0 r15_1 r15_2, zVl r15_0 k16 14 f16, zVl r15_1 k17 14 f17, zVi r3_3 k18 4 f18, zVi r4_5 k19 14 f19] H → va_D A [zV3 h0 r0_0 r0_1 v0_2 v0_3 r0_4 r0_5 r0_6 r0_7 v0_8 r0_9 v0_10 v0_11 s_9.2.2.1 s_9.2.2.2.1 s_9.2.2.2.2.1 s_9.2.2.2.2.2.1, zVi h2 k1 14 f1, zVi r0_1 k2 14 s_9.2.2.2.2.2.2.2.2.1, zV9 h1 v3_0 r3_1 r3_2 r3_3 r3_4 v3_5 r3_6 r3_7 r3_8, zV4 r3_6 v4_0 v4_1 r4_2 r4_3 r4_4 r4_5 r4_6 r4_7 r4_8 r4_9, zVi r4_8 k5 28 f5, zV2 r3_7 v6_0 v6_1 v6_2 r6_3 r6_4 r6_5, zVi r6_3 k7 14 f7, zVi r3_4 k8 4 f8, zVi r6_4 k9 14 f9, zV7 r0_0 r10_0 s_9.2.2.2.2.2.2.1 s_9.2.2.2.2.2.2.2.1, zVi r3_2 k11 4 f11, zVi r4_3 k12 14 f12, zVl r10_0 k13 14 s_9.2.2.2.2.2.2.2.2.2, zVi r4_9 k14 28 f14, zV6 r3_8 r15_0 r15_1 r15_2, zVl r15_0 k16 14 f16, zVl r15_1 k17 14 f17, zVi r3_3 k18 4 f18, zVi r4_5 k19 14 f19] → va_S A s.heap H locs → lv_has ls 8 [(5, .int s_9.2.1), (4, .int s_9.1), (3, .int o_5), (0, .ref h0), (1, .ref h1), (2, .ref h2)] → W p l e (headSpec wsX3_lookAround ({ frames := 4, cells := 0, slots := 0, locals := 125 })).room s m ([.ref h0, .ref h1, .ref h2] : List Value).toArray below meth c H locs 0 0 Q (F0 m 40 ls []) := by
    intro n
    induction n with
    | zero => exact fun _ _ _ _ hfn => (zl_0 hfn).elim
    | succ n ih_9 =>
      intro s_9 H locs ls hfn hP hD hS hl
      have hfn := zl_s ebd_9 hfn
      refine lv_iload hx hb dX3_lookAround_40 (lv_at hl 0 rfl) ?_
      refine lv_aload_n hx hb dX3_lookAround_42 rfl (lv_at hl 4 rfl) ?_
      refine va_get (D := (dC, dI)) (ci := 9) (v := .ref r3_7) (C := RX9) (T := TX9) (N := 9) hx hb hts zn_X3_lookAround_X9 hown hK hP 3 rfl rfl 7 (of_decide_eq_true rfl) (hts (.fieldLink RX3 62 "ShortEnough$Task" "groups" "LShortEnough$Groups;") zw_X3_lookAround_331) (fun _ h9 => h9) rfl dX3_lookAround_43 ?_
      refine va_get (D := (dC, dI)) (ci := 2) (v := .int v6_0) (C := RX2) (T := TX2) (N := 6) hx hb hts zn_X3_lookAround_X2 hown hK hP 6 rfl rfl 0 (of_decide_eq_true rfl) (hts (.fieldLink RX3 112 "ShortEnough$Groups" "count" "I") zw_X3_lookAround_333) (fun _ h9 => h9) rfl dX3_lookAround_46 ?_
      refine lv_icmp_ge (tgt := 201) hx hb dX3_lookAround_49 (of_decide_eq_true rfl) (fun c_10 => ?_) (fun c_10 => ?_)
      · have hfn := (if_pos c_10).symm.trans hfn
        have ho := Option.some.inj hfn
        subst ho
        exact zrv hx hb hr hK hP hD hS hQ trivial hlocks dX3_lookAround_201
      have hfn := (if_neg c_10).symm.trans hfn
      refine lv_iconst (v := 0) hx hb dX3_lookAround_52 zci_0 ?_
      refine lv_istore (lv' := [(6, .int 0), (5, .int s_9.2.1), (4, .int s_9.1), (3, .int o_5), (0, .ref h0), (1, .ref h1), (2, .ref h2)]) hx hb dX3_lookAround_53 hl (of_decide_eq_true rfl) rfl (fun ls hl => ?_)
      obtain ⟨bd_11, ebd_11, hfn⟩ := zl_g hfn
      have lp_11 : ∀ (n : Nat) (s_11 : Int32 × Int32 × Int32 × Int32 × Int32 × Int32 × Int32 × Int32 × (Nat → Int32) × (Nat → Int64)) (H : Heap) (locs : List Loc) (ls : Array Slot), zl bd_11 n s_11 = some o → va_P (dC, dI) vwCl [zV3 h0 r0_0 r0_1 v0_2 v0_3 r0_4 r0_5 r0_6 r0_7 v0_8 r0_9 v0_10 v0_11 s_11.2.2.1 s_11.2.2.2.1 s_11.2.2.2.2.1 s_11.2.2.2.2.2.1, zVi h2 k1 14 f1, zVi r0_1 k2 14 s_11.2.2.2.2.2.2.2.2.1, zV9 h1 v3_0 r3_1 r3_2 r3_3 r3_4 v3_5 r3_6 r3_7 r3_8, zV4 r3_6 v4_0 v4_1 r4_2 r4_3 r4_4 r4_5 r4_6 r4_7 r4_8 r4_9, zVi r4_8 k5 28 f5, zV2 r3_7 v6_0 v6_1 v6_2 r6_3 r6_4 r6_5, zVi r6_3 k7 14 f7, zVi r3_4 k8 4 f8, zVi r6_4 k9 14 f9, zV7 r0_0 r10_0 s_11.2.2.2.2.2.2.1 s_11.2.2.2.2.2.2.2.1, zVi r3_2 k11 4 f11, zVi r4_3 k12 14 f12, zVl r10_0 k13 14 s_11.2.2.2.2.2.2.2.2.2, zVi r4_9 k14 28 f14, zV6 r3_8 r15_0 r15_1 r15_2, zVl r15_0 k16 14 f16, zVl r15_1 k17 14 f17, zVi r3_3 k18 4 f18, zVi r4_5 k19 14 f19] H → va_D A [zV3 h0 r0_0 r0_1 v0_2 v0_3 r0_4 r0_5 r0_6 r0_7 v0_8 r0_9 v0_10 v0_11 s_11.2.2.1 s_11.2.2.2.1 s_11.2.2.2.2.1 s_11.2.2.2.2.2.1, zVi h2 k1 14 f1, zVi r0_1 k2 14 s_11.2.2.2.2.2.2.2.2.1, zV9 h1 v3_0 r3_1 r3_2 r3_3 r3_4 v3_5 r3_6 r3_7 r3_8, zV4 r3_6 v4_0 v4_1 r4_2 r4_3 r4_4 r4_5 r4_6 r4_7 r4_8 r4_9, zVi r4_8 k5 28 f5, zV2 r3_7 v6_0 v6_1 v6_2 r6_3 r6_4 r6_5, zVi r6_3 k7 14 f7, zVi r3_4 k8 4 f8, zVi r6_4 k9 14 f9, zV7 r0_0 r10_0 s_11.2.2.2.2.2.2.1 s_11.2.2.2.2.2.2.2.1, zVi r3_2 k11 4 f11, zVi r4_3 k12 14 f12, zVl r10_0 k13 14 s_11.2.2.2.2.2.2.2.2.2, zVi r4_9 k14 28 f14, zV6 r3_8 r15_0 r15_1 r15_2, zVl r15_0 k16 14 f16, zVl r15_1 k17 14 f17, zVi r3_3 k18 4 f18, zVi r4_5 k19 14 f19] → va_S A s.heap H locs → lv_has ls 8 [(6, .int s_11.2.1), (5, .int s_9.2.1), (4, .int s_11.1), (3, .int o_5), (0, .ref h0), (1, .ref h1), (2, .ref h2)] → W p l e (headSpec wsX3_lookAround ({ frames := 4, cells := 0, slots := 0, locals := 125 })).room s m ([.ref h0, .ref h1, .ref h2] : List Value).toArray below meth c H locs 0 0 Q (F0 m 55 ls []) := by
        intro n
        induction n with
        | zero => exact fun _ _ _ _ hfn => (zl_0 hfn).elim
        | succ n ih_11 =>
          intro s_11 H locs ls hfn hP hD hS hl
          have hfn := zl_s ebd_11 hfn
          refine lv_aload_n hx hb dX3_lookAround_55 rfl (lv_at hl 5 rfl) ?_
          refine va_get (D := (dC, dI)) (ci := 9) (v := .ref r3_7) (C := RX9) (T := TX9) (N := 9) hx hb hts zn_X3_lookAround_X9 hown hK hP 3 rfl rfl 7 (of_decide_eq_true rfl) (hts (.fieldLink RX3 62 "ShortEnough$Task" "groups" "LShortEnough$Groups;") zw_X3_lookAround_331) (fun _ h9 => h9) rfl dX3_lookAround_56 ?_
          refine va_get (D := (dC, dI)) (ci := 2) (v := .ref r6_4) (C := RX2) (T := TX2) (N := 6) hx hb hts zn_X3_lookAround_X2 hown hK hP 6 rfl rfl 4 (of_decide_eq_true rfl) (hts (.fieldLink RX3 115 "ShortEnough$Groups" "fixedAs" "[I") zw_X3_lookAround_334) (fun _ h9 => h9) rfl dX3_lookAround_59 ?_
          refine lv_iload hx hb dX3_lookAround_62 (lv_at hl 1 rfl) ?_
          obtain ⟨h_12, hfn⟩ := zg_s hfn
          refine va_iald hx hb hK hP 9 5 rfl rfl h_12 dX3_lookAround_64 ?_
          refine lv_iconst (v := (-1)) hx hb dX3_lookAround_65 zci_m1 ?_
          obtain ⟨j_13, ej_13, hfn⟩ := zj_g hfn
          have jp_13 : ∀ (s_13 : Unit) (H : Heap) (locs : List Loc) (ls : Array Slot), j_13 s_13 = some o → va_P (dC, dI) vwCl [zV3 h0 r0_0 r0_1 v0_2 v0_3 r0_4 r0_5 r0_6 r0_7 v0_8 r0_9 v0_10 v0_11 s_11.2.2.1 s_11.2.2.2.1 s_11.2.2.2.2.1 s_11.2.2.2.2.2.1, zVi h2 k1 14 f1, zVi r0_1 k2 14 s_11.2.2.2.2.2.2.2.2.1, zV9 h1 v3_0 r3_1 r3_2 r3_3 r3_4 v3_5 r3_6 r3_7 r3_8, zV4 r3_6 v4_0 v4_1 r4_2 r4_3 r4_4 r4_5 r4_6 r4_7 r4_8 r4_9, zVi r4_8 k5 28 f5, zV2 r3_7 v6_0 v6_1 v6_2 r6_3 r6_4 r6_5, zVi r6_3 k7 14 f7, zVi r3_4 k8 4 f8, zVi r6_4 k9 14 f9, zV7 r0_0 r10_0 s_11.2.2.2.2.2.2.1 s_11.2.2.2.2.2.2.2.1, zVi r3_2 k11 4 f11, zVi r4_3 k12 14 f12, zVl r10_0 k13 14 s_11.2.2.2.2.2.2.2.2.2, zVi r4_9 k14 28 f14, zV6 r3_8 r15_0 r15_1 r15_2, zVl r15_0 k16 14 f16, zVl r15_1 k17 14 f17, zVi r3_3 k18 4 f18, zVi r4_5 k19 14 f19] H → va_D A [zV3 h0 r0_0 r0_1 v0_2 v0_3 r0_4 r0_5 r0_6 r0_7 v0_8 r0_9 v0_10 v0_11 s_11.2.2.1 s_11.2.2.2.1 s_11.2.2.2.2.1 s_11.2.2.2.2.2.1, zVi h2 k1 14 f1, zVi r0_1 k2 14 s_11.2.2.2.2.2.2.2.2.1, zV9 h1 v3_0 r3_1 r3_2 r3_3 r3_4 v3_5 r3_6 r3_7 r3_8, zV4 r3_6 v4_0 v4_1 r4_2 r4_3 r4_4 r4_5 r4_6 r4_7 r4_8 r4_9, zVi r4_8 k5 28 f5, zV2 r3_7 v6_0 v6_1 v6_2 r6_3 r6_4 r6_5, zVi r6_3 k7 14 f7, zVi r3_4 k8 4 f8, zVi r6_4 k9 14 f9, zV7 r0_0 r10_0 s_11.2.2.2.2.2.2.1 s_11.2.2.2.2.2.2.2.1, zVi r3_2 k11 4 f11, zVi r4_3 k12 14 f12, zVl r10_0 k13 14 s_11.2.2.2.2.2.2.2.2.2, zVi r4_9 k14 28 f14, zV6 r3_8 r15_0 r15_1 r15_2, zVl r15_0 k16 14 f16, zVl r15_1 k17 14 f17, zVi r3_3 k18 4 f18, zVi r4_5 k19 14 f19] → va_S A s.heap H locs → lv_has ls 8 [(5, .int s_9.2.1), (4, .int s_11.1), (3, .int o_5), (0, .ref h0), (1, .ref h1), (2, .ref h2)] → W p l e (headSpec wsX3_lookAround ({ frames := 4, cells := 0, slots := 0, locals := 125 })).room s m ([.ref h0, .ref h1, .ref h2] : List Value).toArray below meth c H locs 0 0 Q (F0 m 184 ls []) := by
            intro s_13 H locs ls hfn hP hD hS hl
            have hfn := zj_s ej_13 hfn
            refine lv_aload_n hx hb dX3_lookAround_184 rfl (lv_at hl 3 rfl) ?_
            refine va_get (D := (dC, dI)) (ci := 3) (v := .ref r0_1) (C := RX3) (T := TX3) (N := 16) hx hb hts zn_X3_lookAround_X3 hown hK hP 0 rfl rfl 1 (of_decide_eq_true rfl) (hts (.fieldLink RX3 18 "ShortEnough$LocalSearch" "near" "[I") zw_X3_lookAround_327) (fun _ h9 => h9) rfl dX3_lookAround_185 ?_
            refine lv_iload hx hb dX3_lookAround_188 (lv_at hl 0 rfl) ?_
            refine lv_aload_n hx hb dX3_lookAround_190 rfl (lv_at hl 5 rfl) ?_
            refine lv_iload hx hb dX3_lookAround_191 (lv_at hl 0 rfl) ?_
            obtain ⟨h_14, hfn⟩ := zg_s hfn
            refine va_iald hx hb hK hP 1 0 rfl rfl h_14 dX3_lookAround_193 ?_
            refine va_iast hx hb hK hP hD hS 2 1 rfl rfl h_14 dX3_lookAround_194 (fun H locs hP hD hS => ?_)
            obtain ⟨g_15, eg_15⟩ : ∃ g : Nat → Int32, g = (upd s_11.2.2.2.2.2.2.2.2.1 s_9.2.1.toNatClampNeg (f1 s_9.2.1.toNatClampNeg)) := ⟨_, rfl⟩
            have hfn := zn_s hfn eg_15
            have hP : va_P (dC, dI) vwCl [zV3 h0 r0_0 r0_1 v0_2 v0_3 r0_4 r0_5 r0_6 r0_7 v0_8 r0_9 v0_10 v0_11 s_11.2.2.1 s_11.2.2.2.1 s_11.2.2.2.2.1 s_11.2.2.2.2.2.1, zVi h2 k1 14 f1, zVi r0_1 k2 14 g_15, zV9 h1 v3_0 r3_1 r3_2 r3_3 r3_4 v3_5 r3_6 r3_7 r3_8, zV4 r3_6 v4_0 v4_1 r4_2 r4_3 r4_4 r4_5 r4_6 r4_7 r4_8 r4_9, zVi r4_8 k5 28 f5, zV2 r3_7 v6_0 v6_1 v6_2 r6_3 r6_4 r6_5, zVi r6_3 k7 14 f7, zVi r3_4 k8 4 f8, zVi r6_4 k9 14 f9, zV7 r0_0 r10_0 s_11.2.2.2.2.2.2.1 s_11.2.2.2.2.2.2.2.1, zVi r3_2 k11 4 f11, zVi r4_3 k12 14 f12, zVl r10_0 k13 14 s_11.2.2.2.2.2.2.2.2.2, zVi r4_9 k14 28 f14, zV6 r3_8 r15_0 r15_1 r15_2, zVl r15_0 k16 14 f16, zVl r15_1 k17 14 f17, zVi r3_3 k18 4 f18, zVi r4_5 k19 14 f19] H := by rw [eg_15]; exact hP
            have hD : va_D A [zV3 h0 r0_0 r0_1 v0_2 v0_3 r0_4 r0_5 r0_6 r0_7 v0_8 r0_9 v0_10 v0_11 s_11.2.2.1 s_11.2.2.2.1 s_11.2.2.2.2.1 s_11.2.2.2.2.2.1, zVi h2 k1 14 f1, zVi r0_1 k2 14 g_15, zV9 h1 v3_0 r3_1 r3_2 r3_3 r3_4 v3_5 r3_6 r3_7 r3_8, zV4 r3_6 v4_0 v4_1 r4_2 r4_3 r4_4 r4_5 r4_6 r4_7 r4_8 r4_9, zVi r4_8 k5 28 f5, zV2 r3_7 v6_0 v6_1 v6_2 r6_3 r6_4 r6_5, zVi r6_3 k7 14 f7, zVi r3_4 k8 4 f8, zVi r6_4 k9 14 f9, zV7 r0_0 r10_0 s_11.2.2.2.2.2.2.1 s_11.2.2.2.2.2.2.2.1, zVi r3_2 k11 4 f11, zVi r4_3 k12 14 f12, zVl r10_0 k13 14 s_11.2.2.2.2.2.2.2.2.2, zVi r4_9 k14 28 f14, zV6 r3_8 r15_0 r15_1 r15_2, zVl r15_0 k16 14 f16, zVl r15_1 k17 14 f17, zVi r3_3 k18 4 f18, zVi r4_5 k19 14 f19] := by rw [eg_15]; exact hD
            refine lv_iinc (v := (s_9.2.1 + 1)) (lv' := [(5, .int (s_9.2.1 + 1)), (4, .int s_11.1), (3, .int o_5), (0, .ref h0), (1, .ref h1), (2, .ref h2)]) hx hb dX3_lookAround_195 hl (k := 0) rfl rfl (of_decide_eq_true rfl) rfl (fun ls hl => ?_)
            refine lv_goto (tgt := 40) hx hb dX3_lookAround_198 (of_decide_eq_true rfl) ?_
            exact ih_9 (s_11.1, (s_9.2.1 + 1), s_11.2.2.1, s_11.2.2.2.1, s_11.2.2.2.2.1, s_11.2.2.2.2.2.1, s_11.2.2.2.2.2.2.1, s_11.2.2.2.2.2.2.2.1, g_15, s_11.2.2.2.2.2.2.2.2.2) H locs ls hfn hP hD hS (lv_sub hl [0, 1, 2, 3, 4, 5] rfl)
          refine lv_icmp_ne (tgt := 184) hx hb dX3_lookAround_66 (of_decide_eq_true rfl) (fun c_16 => ?_) (fun c_16 => ?_)
          · have hfn := (if_neg c_16).symm.trans hfn
            exact jp_13 () H locs ls hfn hP hD hS (lv_sub hl [1, 2, 3, 4, 5, 6] rfl)
          have hfn := (if_pos c_16).symm.trans hfn
          refine lv_iload hx hb dX3_lookAround_69 (lv_at hl 0 rfl) ?_
          refine lv_aload_n hx hb dX3_lookAround_71 rfl (lv_at hl 5 rfl) ?_
          refine va_get (D := (dC, dI)) (ci := 9) (v := .int v3_0) (C := RX9) (T := TX9) (N := 9) hx hb hts zn_X3_lookAround_X9 hown hK hP 3 rfl rfl 0 (of_decide_eq_true rfl) (hts (.fieldLink RX3 90 "ShortEnough$Task" "formats" "I") zw_X3_lookAround_335) (fun _ h9 => h9) rfl dX3_lookAround_72 ?_
          refine lv_icmp_ge (tgt := 184) hx hb dX3_lookAround_75 (of_decide_eq_true rfl) (fun c_17 => ?_) (fun c_17 => ?_)
          · have hfn := (if_pos c_17).symm.trans hfn
            exact jp_13 () H locs ls hfn hP hD hS (lv_sub hl [1, 2, 3, 4, 5, 6] rfl)
          have hfn := (if_neg c_17).symm.trans hfn
          refine lv_aload_n hx hb dX3_lookAround_78 rfl (lv_at hl 4 rfl) ?_
          refine va_get (D := (dC, dI)) (ci := 3) (v := .ref r0_1) (C := RX3) (T := TX3) (N := 16) hx hb hts zn_X3_lookAround_X3 hown hK hP 0 rfl rfl 1 (of_decide_eq_true rfl) (hts (.fieldLink RX3 18 "ShortEnough$LocalSearch" "near" "[I") zw_X3_lookAround_327) (fun _ h9 => h9) rfl dX3_lookAround_79 ?_
          refine lv_iload hx hb dX3_lookAround_82 (lv_at hl 1 rfl) ?_
          refine lv_iload hx hb dX3_lookAround_84 (lv_at hl 0 rfl) ?_
          refine va_iast hx hb hK hP hD hS 2 1 rfl rfl h_12 dX3_lookAround_86 (fun H locs hP hD hS => ?_)
          have hP : va_P (dC, dI) vwCl [zV3 h0 r0_0 r0_1 v0_2 v0_3 r0_4 r0_5 r0_6 r0_7 v0_8 r0_9 v0_10 v0_11 s_11.2.2.1 s_11.2.2.2.1 s_11.2.2.2.2.1 s_11.2.2.2.2.2.1, zVi h2 k1 14 f1, zVi r0_1 k2 14 (upd s_11.2.2.2.2.2.2.2.2.1 s_9.2.1.toNatClampNeg s_11.2.1), zV9 h1 v3_0 r3_1 r3_2 r3_3 r3_4 v3_5 r3_6 r3_7 r3_8, zV4 r3_6 v4_0 v4_1 r4_2 r4_3 r4_4 r4_5 r4_6 r4_7 r4_8 r4_9, zVi r4_8 k5 28 f5, zV2 r3_7 v6_0 v6_1 v6_2 r6_3 r6_4 r6_5, zVi r6_3 k7 14 f7, zVi r3_4 k8 4 f8, zVi r6_4 k9 14 f9, zV7 r0_0 r10_0 s_11.2.2.2.2.2.2.1 s_11.2.2.2.2.2.2.2.1, zVi r3_2 k11 4 f11, zVi r4_3 k12 14 f12, zVl r10_0 k13 14 s_11.2.2.2.2.2.2.2.2.2, zVi r4_9 k14 28 f14, zV6 r3_8 r15_0 r15_1 r15_2, zVl r15_0 k16 14 f16, zVl r15_1 k17 14 f17, zVi r3_3 k18 4 f18, zVi r4_5 k19 14 f19] H := hP
          have hD := zDW hD hP rfl
          refine lv_iload hx hb dX3_lookAround_87 (lv_at hl 0 rfl) ?_
          refine lv_aload_n hx hb dX3_lookAround_89 rfl (lv_at hl 6 rfl) ?_
          refine lv_iload hx hb dX3_lookAround_90 (lv_at hl 1 rfl) ?_
          refine va_iald hx hb hK hP 1 0 rfl rfl h_12 dX3_lookAround_92 ?_
          refine lv_icmp_eq (tgt := 178) hx hb dX3_lookAround_93 (of_decide_eq_true rfl) (fun c_18 => ?_) (fun c_18 => ?_)
          · have hfn := (if_pos c_18).symm.trans hfn
            refine lv_iinc (v := (s_11.2.1 + 1)) (lv' := [(6, .int (s_11.2.1 + 1)), (5, .int s_9.2.1), (4, .int s_11.1), (3, .int o_5), (0, .ref h0), (1, .ref h1), (2, .ref h2)]) hx hb dX3_lookAround_178 hl (k := 0) rfl rfl (of_decide_eq_true rfl) rfl (fun ls hl => ?_)
            refine lv_goto (tgt := 55) hx hb dX3_lookAround_181 (of_decide_eq_true rfl) ?_
            exact ih_11 (s_11.1, (s_11.2.1 + 1), s_11.2.2.1, s_11.2.2.2.1, s_11.2.2.2.2.1, s_11.2.2.2.2.2.1, s_11.2.2.2.2.2.2.1, s_11.2.2.2.2.2.2.2.1, (upd s_11.2.2.2.2.2.2.2.2.1 s_9.2.1.toNatClampNeg s_11.2.1), s_11.2.2.2.2.2.2.2.2.2) H locs ls hfn hP hD hS (lv_sub hl [0, 1, 2, 3, 4, 5, 6] rfl)
          have hfn := (if_neg c_18).symm.trans hfn
          refine lv_aload_n hx hb dX3_lookAround_96 rfl (lv_at hl 4 rfl) ?_
          refine va_get (D := (dC, dI)) (ci := 3) (v := .ref r0_0) (C := RX3) (T := TX3) (N := 16) hx hb hts zn_X3_lookAround_X3 hown hK hP 0 rfl rfl 0 (of_decide_eq_true rfl) (hts (.fieldLink RX3 12 "ShortEnough$LocalSearch" "reckoning" "LShortEnough$Reckoning;") zw_X3_lookAround_336) (fun _ h9 => h9) rfl dX3_lookAround_97 ?_
          refine lv_aload_n hx hb dX3_lookAround_100 rfl (lv_at hl 5 rfl) ?_
          refine lv_aload_n hx hb dX3_lookAround_101 rfl (lv_at hl 5 rfl) ?_
          refine va_get (D := (dC, dI)) (ci := 9) (v := .ref r3_8) (C := RX9) (T := TX9) (N := 9) hx hb hts zn_X3_lookAround_X9 hown hK hP 3 rfl rfl 8 (of_decide_eq_true rfl) (hts (.fieldLink RX3 75 "ShortEnough$Task" "ranges" "LShortEnough$Ranges;") zw_X3_lookAround_337) (fun _ h9 => h9) rfl dX3_lookAround_102 ?_
          refine lv_aload_n hx hb dX3_lookAround_105 rfl (lv_at hl 4 rfl) ?_
          refine va_get (D := (dC, dI)) (ci := 3) (v := .ref r0_1) (C := RX3) (T := TX3) (N := 16) hx hb hts zn_X3_lookAround_X3 hown hK hP 0 rfl rfl 1 (of_decide_eq_true rfl) (hts (.fieldLink RX3 18 "ShortEnough$LocalSearch" "near" "[I") zw_X3_lookAround_327) (fun _ h9 => h9) rfl dX3_lookAround_106 ?_
          obtain ⟨o_19, hqo_19, hfn⟩ := zb_s hfn
          refine zcNVb (ci := 7) (rest := []) (pc' := 112) (ws' := [zV3 h0 r0_0 r0_1 v0_2 v0_3 r0_4 r0_5 r0_6 r0_7 v0_8 r0_9 v0_10 v0_11 s_11.2.2.1 s_11.2.2.2.1 s_11.2.2.2.2.1 s_11.2.2.2.2.2.1, zVi h2 k1 14 f1, zVi r0_1 k2 14 (upd s_11.2.2.2.2.2.2.2.2.1 s_9.2.1.toNatClampNeg s_11.2.1), zV9 h1 v3_0 r3_1 r3_2 r3_3 r3_4 v3_5 r3_6 r3_7 r3_8, zV4 r3_6 v4_0 v4_1 r4_2 r4_3 r4_4 r4_5 r4_6 r4_7 r4_8 r4_9, zVi r4_8 k5 28 f5, zV2 r3_7 v6_0 v6_1 v6_2 r6_3 r6_4 r6_5, zVi r6_3 k7 14 f7, zVi r3_4 k8 4 f8, zVi r6_4 k9 14 f9, zV7 r0_0 r10_0 o_19.2.1 o_19.2.2.1, zVi r3_2 k11 4 f11, zVi r4_3 k12 14 f12, zVl r10_0 k13 14 o_19.2.2.2, zVi r4_9 k14 28 f14, zV6 r3_8 r15_0 r15_1 r15_2, zVl r15_0 k16 14 f16, zVl r15_1 k17 14 f17, zVi r3_3 k18 4 f18, zVi r4_5 k19 14 f19]) hP hK hD hS hA ⟨hx, hb, hml, hown, hts⟩ (zf_X7_reckon l dC dI r0_0 h1 r3_8 r0_1 r10_0 s_11.2.2.2.2.2.2.1 s_11.2.2.2.2.2.2.2.1 v3_0 r3_1 r3_2 r3_3 r3_4 v3_5 r3_6 r3_7 r3_8 v4_0 v4_1 r4_2 r4_3 r4_4 r4_5 r4_6 r4_7 r4_8 r4_9 v6_0 v6_1 v6_2 r6_3 r6_4 r6_5 k7 f7 k2 (upd s_11.2.2.2.2.2.2.2.2.1 s_9.2.1.toNatClampNeg s_11.2.1) k11 f11 k12 f12 k5 f5 k13 s_11.2.2.2.2.2.2.2.2.2 k14 f14 r15_0 r15_1 r15_2 k16 f16 k17 f17 k18 f18 k19 f19 o_19 hqo_19 H.size) ⟨hn1, trivial⟩ (cwV 3 hts gX3_lookAround_X7_reckon rfl rfl rfl zhd_X7_reckon ⟨Nat.le_of_ble_eq_true rfl, Nat.le_of_ble_eq_true rfl⟩) [10, 3, 4, 6, 7, 2, 11, 12, 5, 13, 14, 15, 16, 17, 18, 19] rfl (of_decide_eq_true rfl) [3, 1, 6, 7, 2, 8, 9, 10, 11, 12, 13] rfl rfl rfl rfl hl.1 rfl (Nat.le_of_ble_eq_true rfl) dX3_lookAround_109 ⟨Nat.le_of_ble_eq_true rfl, Nat.le_of_ble_eq_true rfl⟩ [none, none, some 5, some 1, some 2, some 8, some 3, some 4, none, none, some 0, some 6, some 7, some 9, some 10, some 11, some 12, some 13, some 14, some 15] (of_decide_eq_true rfl) (of_decide_eq_true rfl) rfl rfl rfl (fun H locs hw_22n hP hD hS => ?_)
          refine lv_if_eq (tgt := 178) hx hb dX3_lookAround_112 (of_decide_eq_true rfl) (fun c_23 => ?_) (fun c_23 => ?_)
          · have hfn := (if_pos c_23).symm.trans hfn
            refine lv_iinc (v := (s_11.2.1 + 1)) (lv' := [(6, .int (s_11.2.1 + 1)), (5, .int s_9.2.1), (4, .int s_11.1), (3, .int o_5), (0, .ref h0), (1, .ref h1), (2, .ref h2)]) hx hb dX3_lookAround_178 hl (k := 0) rfl rfl (of_decide_eq_true rfl) rfl (fun ls hl => ?_)
            refine lv_goto (tgt := 55) hx hb dX3_lookAround_181 (of_decide_eq_true rfl) ?_
            exact ih_11 (s_11.1, (s_11.2.1 + 1), s_11.2.2.1, s_11.2.2.2.1, s_11.2.2.2.2.1, s_11.2.2.2.2.2.1, o_19.2.1, o_19.2.2.1, (upd s_11.2.2.2.2.2.2.2.2.1 s_9.2.1.toNatClampNeg s_11.2.1), o_19.2.2.2) H locs ls hfn hP hD hS (lv_sub hl [0, 1, 2, 3, 4, 5, 6] rfl)
          have hfn := (if_neg c_23).symm.trans hfn
          refine lv_aload_n hx hb dX3_lookAround_115 rfl (lv_at hl 5 rfl) ?_
          refine lv_aload_n hx hb dX3_lookAround_116 rfl (lv_at hl 4 rfl) ?_
          refine va_get (D := (dC, dI)) (ci := 3) (v := .ref r0_1) (C := RX3) (T := TX3) (N := 16) hx hb hts zn_X3_lookAround_X3 hown hK hP 0 rfl rfl 1 (of_decide_eq_true rfl) (hts (.fieldLink RX3 18 "ShortEnough$LocalSearch" "near" "[I") zw_X3_lookAround_327) (fun _ h9 => h9) rfl dX3_lookAround_117 ?_
          obtain ⟨o_24, hqo_24, hfn⟩ := zb_s hfn
          refine zcVi (ci := 9) (rest := []) (pc' := 123) (ws' := [zV3 h0 r0_0 r0_1 v0_2 v0_3 r0_4 r0_5 r0_6 r0_7 v0_8 r0_9 v0_10 v0_11 s_11.2.2.1 s_11.2.2.2.1 s_11.2.2.2.2.1 s_11.2.2.2.2.2.1, zVi h2 k1 14 f1, zVi r0_1 k2 14 (upd s_11.2.2.2.2.2.2.2.2.1 s_9.2.1.toNatClampNeg s_11.2.1), zV9 h1 v3_0 r3_1 r3_2 r3_3 r3_4 v3_5 r3_6 r3_7 r3_8, zV4 r3_6 v4_0 v4_1 r4_2 r4_3 r4_4 r4_5 r4_6 r4_7 r4_8 r4_9, zVi r4_8 k5 28 f5, zV2 r3_7 v6_0 v6_1 v6_2 r6_3 r6_4 r6_5, zVi r6_3 k7 14 f7, zVi r3_4 k8 4 f8, zVi r6_4 k9 14 f9, zV7 r0_0 r10_0 o_19.2.1 o_19.2.2.1, zVi r3_2 k11 4 f11, zVi r4_3 k12 14 f12, zVl r10_0 k13 14 o_19.2.2.2, zVi r4_9 k14 28 f14, zV6 r3_8 r15_0 r15_1 r15_2, zVl r15_0 k16 14 f16, zVl r15_1 k17 14 f17, zVi r3_3 k18 4 f18, zVi r4_5 k19 14 f19]) hP hK hD hS hA ⟨hx, hb, hml, hown, hts⟩ (zf_X9_priceOf l dC dI h1 r0_1 v3_0 r3_1 r3_2 r3_3 r3_4 v3_5 r3_6 r3_7 r3_8 v4_0 v4_1 r4_2 r4_3 r4_4 r4_5 r4_6 r4_7 r4_8 r4_9 k5 f5 v6_0 v6_1 v6_2 r6_3 r6_4 r6_5 k7 f7 k2 (upd s_11.2.2.2.2.2.2.2.2.1 s_9.2.1.toNatClampNeg s_11.2.1) k8 f8 o_24 hqo_24 H.size) (cwV 1 hts gX3_lookAround_X9_priceOf rfl rfl rfl zhd_X9_priceOf ⟨Nat.le_of_ble_eq_true rfl, Nat.le_of_ble_eq_true rfl⟩) [3, 4, 5, 6, 7, 2, 8] rfl (of_decide_eq_true rfl) [2, 3, 1, 4] rfl rfl rfl rfl hl.1 rfl (Nat.le_of_ble_eq_true rfl) dX3_lookAround_120 ⟨Nat.le_of_ble_eq_true rfl, Nat.le_of_ble_eq_true rfl⟩ [none, none, some 5, some 0, some 1, some 2, some 3, some 4, some 6] (of_decide_eq_true rfl) (of_decide_eq_true rfl) rfl rfl rfl (fun H locs hP hD hS => ?_)
          refine lv_istore (lv' := [(7, .int o_24), (6, .int s_11.2.1), (5, .int s_9.2.1), (4, .int s_11.1), (3, .int o_5), (0, .ref h0), (1, .ref h1), (2, .ref h2)]) hx hb dX3_lookAround_123 hl (of_decide_eq_true rfl) rfl (fun ls hl => ?_)
          refine lv_aload_n hx hb dX3_lookAround_125 rfl (lv_at hl 5 rfl) ?_
          refine lv_dup hx hb dX3_lookAround_126 rfl ?_
          refine va_get (D := (dC, dI)) (ci := 3) (v := .int s_11.2.2.1) (C := RX3) (T := TX3) (N := 16) hx hb hts zn_X3_lookAround_X3 hown hK hP 0 rfl rfl 12 (of_decide_eq_true rfl) (hts (.fieldLink RX3 122 "ShortEnough$LocalSearch" "passed" "I") zw_X3_lookAround_323) (fun _ h9 => h9) rfl dX3_lookAround_127 ?_
          refine lv_iconst (v := 1) hx hb dX3_lookAround_130 zci_1 ?_
          refine lv_iadd hx hb dX3_lookAround_131 ?_
          refine va_put (D := (dC, dI)) (ci := 3) (v := .int (s_11.2.2.1 + 1)) (ty := .int) (C := RX3) (T := TX3) (N := 16) hx hb hts zn_X3_lookAround_X3 tyX3 tyX3_ok nmX3 hown hK hP hD hS 0 rfl rfl 12 (of_decide_eq_true rfl) (hts (.fieldLink RX3 122 "ShortEnough$LocalSearch" "passed" "I") zw_X3_lookAround_323) (fun _ h9 => h9) rfl (tyX3_ok 12 (of_decide_eq_true rfl)) rfl rfl (Nat.le_of_ble_eq_true rfl) dX3_lookAround_132 (fun H locs hP hD hS => ?_)
          have hP : va_P (dC, dI) vwCl [zV3 h0 r0_0 r0_1 v0_2 v0_3 r0_4 r0_5 r0_6 r0_7 v0_8 r0_9 v0_10 v0_11 (s_11.2.2.1 + 1) s_11.2.2.2.1 s_11.2.2.2.2.1 s_11.2.2.2.2.2.1, zVi h2 k1 14 f1, zVi r0_1 k2 14 (upd s_11.2.2.2.2.2.2.2.2.1 s_9.2.1.toNatClampNeg s_11.2.1), zV9 h1 v3_0 r3_1 r3_2 r3_3 r3_4 v3_5 r3_6 r3_7 r3_8, zV4 r3_6 v4_0 v4_1 r4_2 r4_3 r4_4 r4_5 r4_6 r4_7 r4_8 r4_9, zVi r4_8 k5 28 f5, zV2 r3_7 v6_0 v6_1 v6_2 r6_3 r6_4 r6_5, zVi r6_3 k7 14 f7, zVi r3_4 k8 4 f8, zVi r6_4 k9 14 f9, zV7 r0_0 r10_0 o_19.2.1 o_19.2.2.1, zVi r3_2 k11 4 f11, zVi r4_3 k12 14 f12, zVl r10_0 k13 14 o_19.2.2.2, zVi r4_9 k14 28 f14, zV6 r3_8 r15_0 r15_1 r15_2, zVl r15_0 k16 14 f16, zVl r15_1 k17 14 f17, zVi r3_3 k18 4 f18, zVi r4_5 k19 14 f19] H := hP
          have hD := zDW hD hP rfl
          refine lv_aload_n hx hb dX3_lookAround_135 rfl (lv_at hl 5 rfl) ?_
          refine lv_dup hx hb dX3_lookAround_136 rfl ?_
          refine va_get (D := (dC, dI)) (ci := 3) (v := .int s_11.2.2.2.1) (C := RX3) (T := TX3) (N := 16) hx hb hts zn_X3_lookAround_X3 hown hK hP 0 rfl rfl 13 (of_decide_eq_true rfl) (hts (.fieldLink RX3 125 "ShortEnough$LocalSearch" "cheaper" "I") zw_X3_lookAround_324) (fun _ h9 => h9) rfl dX3_lookAround_137 ?_
          refine lv_iload hx hb dX3_lookAround_140 (lv_at hl 0 rfl) ?_
          refine lv_iload_n hx hb dX3_lookAround_142 rfl (lv_at hl 4 rfl) ?_
          obtain ⟨j_28, ej_28, hfn⟩ := zj_g hfn
          have jp_28 : ∀ (s_28 : Int32) (H : Heap) (locs : List Loc) (ls : Array Slot), j_28 s_28 = some o → va_P (dC, dI) vwCl [zV3 h0 r0_0 r0_1 v0_2 v0_3 r0_4 r0_5 r0_6 r0_7 v0_8 r0_9 v0_10 v0_11 (s_11.2.2.1 + 1) s_11.2.2.2.1 s_11.2.2.2.2.1 s_11.2.2.2.2.2.1, zVi h2 k1 14 f1, zVi r0_1 k2 14 (upd s_11.2.2.2.2.2.2.2.2.1 s_9.2.1.toNatClampNeg s_11.2.1), zV9 h1 v3_0 r3_1 r3_2 r3_3 r3_4 v3_5 r3_6 r3_7 r3_8, zV4 r3_6 v4_0 v4_1 r4_2 r4_3 r4_4 r4_5 r4_6 r4_7 r4_8 r4_9, zVi r4_8 k5 28 f5, zV2 r3_7 v6_0 v6_1 v6_2 r6_3 r6_4 r6_5, zVi r6_3 k7 14 f7, zVi r3_4 k8 4 f8, zVi r6_4 k9 14 f9, zV7 r0_0 r10_0 o_19.2.1 o_19.2.2.1, zVi r3_2 k11 4 f11, zVi r4_3 k12 14 f12, zVl r10_0 k13 14 o_19.2.2.2, zVi r4_9 k14 28 f14, zV6 r3_8 r15_0 r15_1 r15_2, zVl r15_0 k16 14 f16, zVl r15_1 k17 14 f17, zVi r3_3 k18 4 f18, zVi r4_5 k19 14 f19] H → va_D A [zV3 h0 r0_0 r0_1 v0_2 v0_3 r0_4 r0_5 r0_6 r0_7 v0_8 r0_9 v0_10 v0_11 (s_11.2.2.1 + 1) s_11.2.2.2.1 s_11.2.2.2.2.1 s_11.2.2.2.2.2.1, zVi h2 k1 14 f1, zVi r0_1 k2 14 (upd s_11.2.2.2.2.2.2.2.2.1 s_9.2.1.toNatClampNeg s_11.2.1), zV9 h1 v3_0 r3_1 r3_2 r3_3 r3_4 v3_5 r3_6 r3_7 r3_8, zV4 r3_6 v4_0 v4_1 r4_2 r4_3 r4_4 r4_5 r4_6 r4_7 r4_8 r4_9, zVi r4_8 k5 28 f5, zV2 r3_7 v6_0 v6_1 v6_2 r6_3 r6_4 r6_5, zVi r6_3 k7 14 f7, zVi r3_4 k8 4 f8, zVi r6_4 k9 14 f9, zV7 r0_0 r10_0 o_19.2.1 o_19.2.2.1, zVi r3_2 k11 4 f11, zVi r4_3 k12 14 f12, zVl r10_0 k13 14 o_19.2.2.2, zVi r4_9 k14 28 f14, zV6 r3_8 r15_0 r15_1 r15_2, zVl r15_0 k16 14 f16, zVl r15_1 k17 14 f17, zVi r3_3 k18 4 f18, zVi r4_5 k19 14 f19] → va_S A s.heap H locs → lv_has ls 8 [(7, .int o_24), (6, .int s_11.2.1), (5, .int s_9.2.1), (4, .int s_11.1), (3, .int o_5), (0, .ref h0), (1, .ref h1), (2, .ref h2)] → W p l e (headSpec wsX3_lookAround ({ frames := 4, cells := 0, slots := 0, locals := 125 })).room s m ([.ref h0, .ref h1, .ref h2] : List Value).toArray below meth c H locs 0 0 Q (F0 m 151 ls [.int s_28, .int s_11.2.2.2.1, .ref h0]) := by
            intro s_28 H locs ls hfn hP hD hS hl
            have hfn := zj_s ej_28 hfn
            refine lv_iadd hx hb dX3_lookAround_151 ?_
            refine va_put (D := (dC, dI)) (ci := 3) (v := .int (s_11.2.2.2.1 + s_28)) (ty := .int) (C := RX3) (T := TX3) (N := 16) hx hb hts zn_X3_lookAround_X3 tyX3 tyX3_ok nmX3 hown hK hP hD hS 0 rfl rfl 13 (of_decide_eq_true rfl) (hts (.fieldLink RX3 125 "ShortEnough$LocalSearch" "cheaper" "I") zw_X3_lookAround_324) (fun _ h9 => h9) rfl (tyX3_ok 13 (of_decide_eq_true rfl)) rfl rfl (Nat.le_of_ble_eq_true rfl) dX3_lookAround_152 (fun H locs hP hD hS => ?_)
            have hP : va_P (dC, dI) vwCl [zV3 h0 r0_0 r0_1 v0_2 v0_3 r0_4 r0_5 r0_6 r0_7 v0_8 r0_9 v0_10 v0_11 (s_11.2.2.1 + 1) (s_11.2.2.2.1 + s_28) s_11.2.2.2.2.1 s_11.2.2.2.2.2.1, zVi h2 k1 14 f1, zVi r0_1 k2 14 (upd s_11.2.2.2.2.2.2.2.2.1 s_9.2.1.toNatClampNeg s_11.2.1), zV9 h1 v3_0 r3_1 r3_2 r3_3 r3_4 v3_5 r3_6 r3_7 r3_8, zV4 r3_6 v4_0 v4_1 r4_2 r4_3 r4_4 r4_5 r4_6 r4_7 r4_8 r4_9, zVi r4_8 k5 28 f5, zV2 r3_7 v6_0 v6_1 v6_2 r6_3 r6_4 r6_5, zVi r6_3 k7 14 f7, zVi r3_4 k8 4 f8, zVi r6_4 k9 14 f9, zV7 r0_0 r10_0 o_19.2.1 o_19.2.2.1, zVi r3_2 k11 4 f11, zVi r4_3 k12 14 f12, zVl r10_0 k13 14 o_19.2.2.2, zVi r4_9 k14 28 f14, zV6 r3_8 r15_0 r15_1 r15_2, zVl r15_0 k16 14 f16, zVl r15_1 k17 14 f17, zVi r3_3 k18 4 f18, zVi r4_5 k19 14 f19] H := hP
            have hD := zDW hD hP rfl
            refine lv_iload hx hb dX3_lookAround_155 (lv_at hl 0 rfl) ?_
            refine lv_iload hx hb dX3_lookAround_157 (lv_at hl 3 rfl) ?_
            refine lv_icmp_ge (tgt := 178) hx hb dX3_lookAround_159 (of_decide_eq_true rfl) (fun c_29 => ?_) (fun c_29 => ?_)
            · have hfn := (if_pos c_29).symm.trans hfn
              refine lv_iinc (v := (s_11.2.1 + 1)) (lv' := [(6, .int (s_11.2.1 + 1)), (7, .int o_24), (5, .int s_9.2.1), (4, .int s_11.1), (3, .int o_5), (0, .ref h0), (1, .ref h1), (2, .ref h2)]) hx hb dX3_lookAround_178 hl (k := 1) rfl rfl (of_decide_eq_true rfl) rfl (fun ls hl => ?_)
              refine lv_goto (tgt := 55) hx hb dX3_lookAround_181 (of_decide_eq_true rfl) ?_
              exact ih_11 (s_11.1, (s_11.2.1 + 1), (s_11.2.2.1 + 1), (s_11.2.2.2.1 + s_28), s_11.2.2.2.2.1, s_11.2.2.2.2.2.1, o_19.2.1, o_19.2.2.1, (upd s_11.2.2.2.2.2.2.2.2.1 s_9.2.1.toNatClampNeg s_11.2.1), o_19.2.2.2) H locs ls hfn hP hD hS (lv_sub hl [0, 2, 3, 4, 5, 6, 7] rfl)
            have hfn := (if_neg c_29).symm.trans hfn
            refine lv_iload hx hb dX3_lookAround_162 (lv_at hl 0 rfl) ?_
            refine lv_istore (lv' := [(4, .int o_24), (7, .int o_24), (6, .int s_11.2.1), (5, .int s_9.2.1), (3, .int o_5), (0, .ref h0), (1, .ref h1), (2, .ref h2)]) hx hb dX3_lookAround_164 hl (of_decide_eq_true rfl) rfl (fun ls hl => ?_)
            refine lv_aload_n hx hb dX3_lookAround_166 rfl (lv_at hl 5 rfl) ?_
            refine lv_iload hx hb dX3_lookAround_167 (lv_at hl 3 rfl) ?_
            refine va_put (D := (dC, dI)) (ci := 3) (v := .int s_9.2.1) (ty := .int) (C := RX3) (T := TX3) (N := 16) hx hb hts zn_X3_lookAround_X3 tyX3 tyX3_ok nmX3 hown hK hP hD hS 0 rfl rfl 14 (of_decide_eq_true rfl) (hts (.fieldLink RX3 38 "ShortEnough$LocalSearch" "bestGroup" "I") zw_X3_lookAround_325) (fun _ h9 => h9) rfl (tyX3_ok 14 (of_decide_eq_true rfl)) rfl rfl (Nat.le_of_ble_eq_true rfl) dX3_lookAround_169 (fun H locs hP hD hS => ?_)
            have hP : va_P (dC, dI) vwCl [zV3 h0 r0_0 r0_1 v0_2 v0_3 r0_4 r0_5 r0_6 r0_7 v0_8 r0_9 v0_10 v0_11 (s_11.2.2.1 + 1) (s_11.2.2.2.1 + s_28) s_9.2.1 s_11.2.2.2.2.2.1, zVi h2 k1 14 f1, zVi r0_1 k2 14 (upd s_11.2.2.2.2.2.2.2.2.1 s_9.2.1.toNatClampNeg s_11.2.1), zV9 h1 v3_0 r3_1 r3_2 r3_3 r3_4 v3_5 r3_6 r3_7 r3_8, zV4 r3_6 v4_0 v4_1 r4_2 r4_3 r4_4 r4_5 r4_6 r4_7 r4_8 r4_9, zVi r4_8 k5 28 f5, zV2 r3_7 v6_0 v6_1 v6_2 r6_3 r6_4 r6_5, zVi r6_3 k7 14 f7, zVi r3_4 k8 4 f8, zVi r6_4 k9 14 f9, zV7 r0_0 r10_0 o_19.2.1 o_19.2.2.1, zVi r3_2 k11 4 f11, zVi r4_3 k12 14 f12, zVl r10_0 k13 14 o_19.2.2.2, zVi r4_9 k14 28 f14, zV6 r3_8 r15_0 r15_1 r15_2, zVl r15_0 k16 14 f16, zVl r15_1 k17 14 f17, zVi r3_3 k18 4 f18, zVi r4_5 k19 14 f19] H := hP
            have hD := zDW hD hP rfl
            refine lv_aload_n hx hb dX3_lookAround_172 rfl (lv_at hl 5 rfl) ?_
            refine lv_iload hx hb dX3_lookAround_173 (lv_at hl 2 rfl) ?_
            refine va_put (D := (dC, dI)) (ci := 3) (v := .int s_11.2.1) (ty := .int) (C := RX3) (T := TX3) (N := 16) hx hb hts zn_X3_lookAround_X3 tyX3 tyX3_ok nmX3 hown hK hP hD hS 0 rfl rfl 15 (of_decide_eq_true rfl) (hts (.fieldLink RX3 42 "ShortEnough$LocalSearch" "bestFormat" "I") zw_X3_lookAround_326) (fun _ h9 => h9) rfl (tyX3_ok 15 (of_decide_eq_true rfl)) rfl rfl (Nat.le_of_ble_eq_true rfl) dX3_lookAround_175 (fun H locs hP hD hS => ?_)
            have hP : va_P (dC, dI) vwCl [zV3 h0 r0_0 r0_1 v0_2 v0_3 r0_4 r0_5 r0_6 r0_7 v0_8 r0_9 v0_10 v0_11 (s_11.2.2.1 + 1) (s_11.2.2.2.1 + s_28) s_9.2.1 s_11.2.1, zVi h2 k1 14 f1, zVi r0_1 k2 14 (upd s_11.2.2.2.2.2.2.2.2.1 s_9.2.1.toNatClampNeg s_11.2.1), zV9 h1 v3_0 r3_1 r3_2 r3_3 r3_4 v3_5 r3_6 r3_7 r3_8, zV4 r3_6 v4_0 v4_1 r4_2 r4_3 r4_4 r4_5 r4_6 r4_7 r4_8 r4_9, zVi r4_8 k5 28 f5, zV2 r3_7 v6_0 v6_1 v6_2 r6_3 r6_4 r6_5, zVi r6_3 k7 14 f7, zVi r3_4 k8 4 f8, zVi r6_4 k9 14 f9, zV7 r0_0 r10_0 o_19.2.1 o_19.2.2.1, zVi r3_2 k11 4 f11, zVi r4_3 k12 14 f12, zVl r10_0 k13 14 o_19.2.2.2, zVi r4_9 k14 28 f14, zV6 r3_8 r15_0 r15_1 r15_2, zVl r15_0 k16 14 f16, zVl r15_1 k17 14 f17, zVi r3_3 k18 4 f18, zVi r4_5 k19 14 f19] H := hP
            have hD := zDW hD hP rfl
            refine lv_iinc (v := (s_11.2.1 + 1)) (lv' := [(6, .int (s_11.2.1 + 1)), (4, .int o_24), (7, .int o_24), (5, .int s_9.2.1), (3, .int o_5), (0, .ref h0), (1, .ref h1), (2, .ref h2)]) hx hb dX3_lookAround_178 hl (k := 2) rfl rfl (of_decide_eq_true rfl) rfl (fun ls hl => ?_)
            refine lv_goto (tgt := 55) hx hb dX3_lookAround_181 (of_decide_eq_true rfl) ?_
            exact ih_11 (o_24, (s_11.2.1 + 1), (s_11.2.2.1 + 1), (s_11.2.2.2.1 + s_28), s_9.2.1, s_11.2.1, o_19.2.1, o_19.2.2.1, (upd s_11.2.2.2.2.2.2.2.2.1 s_9.2.1.toNatClampNeg s_11.2.1), o_19.2.2.2) H locs ls hfn hP hD hS (lv_sub hl [0, 3, 1, 4, 5, 6, 7] rfl)
          refine lv_icmp_ge (tgt := 150) hx hb dX3_lookAround_143 (of_decide_eq_true rfl) (fun c_30 => ?_) (fun c_30 => ?_)
          · have hfn := (if_pos c_30).symm.trans hfn
            refine lv_iconst (v := 0) hx hb dX3_lookAround_150 zci_0 ?_
            exact jp_28 0 H locs ls hfn hP hD hS (lv_sub hl [0, 1, 2, 3, 4, 5, 6, 7] rfl)
          have hfn := (if_neg c_30).symm.trans hfn
          refine lv_iconst (v := 1) hx hb dX3_lookAround_146 zci_1 ?_
          refine lv_goto (tgt := 151) hx hb dX3_lookAround_147 (of_decide_eq_true rfl) ?_
          exact jp_28 1 H locs ls hfn hP hD hS (lv_sub hl [0, 1, 2, 3, 4, 5, 6, 7] rfl)
      exact lp_11 _ (s_9.1, 0, s_9.2.2.1, s_9.2.2.2.1, s_9.2.2.2.2.1, s_9.2.2.2.2.2.1, s_9.2.2.2.2.2.2.1, s_9.2.2.2.2.2.2.2.1, s_9.2.2.2.2.2.2.2.2.1, s_9.2.2.2.2.2.2.2.2.2) H locs ls hfn hP hD hS (lv_sub hl [0, 1, 2, 3, 4, 5, 6] rfl)
  exact lp_9 _ (o_5, 0, 0, 0, (-1), (-1), v10_1, v10_2, o_1, f13) H locs ls hfn hP hD hS (lv_sub hl [0, 1, 2, 3, 4, 5] rfl)
theorem zn_X4_prepare_X4 : ∀ w ∈ wsX40, w ∈ wsX4_prepare := fun _ h => List.mem_cons_of_mem _ (List.mem_append_right _ h)
theorem zw_X4_prepare_339 : Cond.fieldLink RX4 36 "ShortEnough$Numbers" "count" "I" ∈ wsX4_prepare := List.mem_of_getElem? (i := 1) (by decide +kernel)
theorem zw_X4_prepare_340 : Cond.fieldLink RX4 30 "ShortEnough$Numbers" "made" "[I" ∈ wsX4_prepare := List.mem_of_getElem? (i := 2) (by decide +kernel)
theorem zw_X4_prepare_341 : Cond.fieldLink RX4 33 "ShortEnough$Numbers" "amount" "[I" ∈ wsX4_prepare := List.mem_of_getElem? (i := 3) (by decide +kernel)
set_option maxHeartbeats 4000000 in
set_option maxRecDepth 100000 in
theorem zf_X4_prepare (l : Launch) (dC : Nat → ClassId) (dI : Nat → Nat → Nat) (h0 : Nat) (p1 : Int32) (p2 : Int32) (p3 : Int32) (v0_0 : Int32) (v0_1 : Int32) (r0_2 : Nat) (r0_3 : Nat) (r0_4 : Nat) (r0_5 : Nat) (r0_6 : Nat) (r0_7 : Nat) (r0_8 : Nat) (r0_9 : Nat) (k1 : Nat) (f1 : Nat → Int32) (k2 : Nat) (f2 : Nat → Int32) (o : (Nat → Int32) × (Nat → Int32)) (hfn : fn_X4_prepare p1 p2 p3 v0_0 f1 f2 = some o) (sz : Nat) : zMv l yX4_prepare wsX4_prepare ({ frames := 0, cells := 0, slots := 0, locals := 0 }) (dC, dI) vwCl [.ref h0, .int p1, .int p2, .int p3] [zV4 h0 v0_0 v0_1 r0_2 r0_3 r0_4 r0_5 r0_6 r0_7 r0_8 r0_9, zVi r0_8 k1 28 f1, zVi r0_9 k2 28 f2] [(k1, .int), (k2, .int)] (fun _ => True) [zV4 h0 v0_0 v0_1 r0_2 r0_3 r0_4 r0_5 r0_6 r0_7 r0_8 r0_9, zVi r0_8 k1 28 o.1, zVi r0_9 k2 28 o.2] [(k1, .int), (k2, .int)] sz := by
  refine zgov (cc := cX4_prepare) (maxL := 4) (ret := none) (C0 := RX4) (lv0 := [(0, .ref h0), (1, .int p1), (2, .int p2), (3, .int p3)]) zpl_X4 rfl rfl rfl (Nat.le_of_ble_eq_true rfl) ?_
  intro p e s m below meth c A ls Q hx hb hr hts hown hlocks hml hP hK hD hA hS hl hQ
  unfold fn_X4_prepare at hfn
  refine lv_aload_n hx hb dX4_prepare_0 rfl (lv_at hl 0 rfl) ?_
  refine va_get (D := (dC, dI)) (ci := 4) (v := .int v0_0) (C := RX4) (T := TX4) (N := 10) hx hb hts zn_X4_prepare_X4 hown hK hP 0 rfl rfl 0 (of_decide_eq_true rfl) (hts (.fieldLink RX4 36 "ShortEnough$Numbers" "count" "I") zw_X4_prepare_339) (fun _ h9 => h9) rfl dX4_prepare_1 ?_
  refine lv_bipush (v := 14) hx hb dX4_prepare_4 zcb_14 ?_
  refine lv_icmp_ge (tgt := 46) hx hb dX4_prepare_6 (of_decide_eq_true rfl) (fun c_1 => ?_) (fun c_1 => ?_)
  · have hfn := (if_pos c_1).symm.trans hfn
    have ho := Option.some.inj hfn
    subst ho
    exact zrv hx hb hr hK hP hD hS hQ trivial hlocks dX4_prepare_46
  have hfn := (if_neg c_1).symm.trans hfn
  refine lv_iload_n hx hb dX4_prepare_9 rfl (lv_at hl 1 rfl) ?_
  obtain ⟨j_2, ej_2, hfn⟩ := zj_g hfn
  have jp_2 : ∀ (s_2 : Unit) (H : Heap) (locs : List Loc) (ls : Array Slot), j_2 s_2 = some o → va_P (dC, dI) vwCl [zV4 h0 v0_0 v0_1 r0_2 r0_3 r0_4 r0_5 r0_6 r0_7 r0_8 r0_9, zVi r0_8 k1 28 f1, zVi r0_9 k2 28 f2] H → va_D A [zV4 h0 v0_0 v0_1 r0_2 r0_3 r0_4 r0_5 r0_6 r0_7 r0_8 r0_9, zVi r0_8 k1 28 f1, zVi r0_9 k2 28 f2] → va_S A s.heap H locs → lv_has ls 4 [(0, .ref h0), (1, .int p1), (2, .int p2), (3, .int p3)] → W p l e (headSpec wsX4_prepare ({ frames := 0, cells := 0, slots := 0, locals := 0 })).room s m ([.ref h0, .int p1, .int p2, .int p3] : List Value).toArray below meth c H locs 0 0 Q (F0 m 18 ls []) := by
    intro s_2 H locs ls hfn hP hD hS hl
    have hfn := zj_s ej_2 hfn
    refine lv_aload_n hx hb dX4_prepare_18 rfl (lv_at hl 0 rfl) ?_
    refine va_get (D := (dC, dI)) (ci := 4) (v := .ref r0_8) (C := RX4) (T := TX4) (N := 10) hx hb hts zn_X4_prepare_X4 hown hK hP 0 rfl rfl 8 (of_decide_eq_true rfl) (hts (.fieldLink RX4 30 "ShortEnough$Numbers" "made" "[I") zw_X4_prepare_340) (fun _ h9 => h9) rfl dX4_prepare_19 ?_
    refine lv_iconst (v := 2) hx hb dX4_prepare_22 zci_2 ?_
    refine lv_aload_n hx hb dX4_prepare_23 rfl (lv_at hl 0 rfl) ?_
    refine va_get (D := (dC, dI)) (ci := 4) (v := .int v0_0) (C := RX4) (T := TX4) (N := 10) hx hb hts zn_X4_prepare_X4 hown hK hP 0 rfl rfl 0 (of_decide_eq_true rfl) (hts (.fieldLink RX4 36 "ShortEnough$Numbers" "count" "I") zw_X4_prepare_339) (fun _ h9 => h9) rfl dX4_prepare_24 ?_
    refine lv_imul hx hb dX4_prepare_27 ?_
    refine lv_iload_n hx hb dX4_prepare_28 rfl (lv_at hl 1 rfl) ?_
    refine lv_iadd hx hb dX4_prepare_29 ?_
    refine lv_iload_n hx hb dX4_prepare_30 rfl (lv_at hl 2 rfl) ?_
    obtain ⟨h_3, hfn⟩ := zg_s hfn
    refine va_iast hx hb hK hP hD hS 1 0 rfl rfl h_3 dX4_prepare_31 (fun H locs hP hD hS => ?_)
    have hP : va_P (dC, dI) vwCl [zV4 h0 v0_0 v0_1 r0_2 r0_3 r0_4 r0_5 r0_6 r0_7 r0_8 r0_9, zVi r0_8 k1 28 (upd f1 ((2 * v0_0) + p1).toNatClampNeg p2), zVi r0_9 k2 28 f2] H := hP
    have hD := zDW hD hP rfl
    refine lv_aload_n hx hb dX4_prepare_32 rfl (lv_at hl 0 rfl) ?_
    refine va_get (D := (dC, dI)) (ci := 4) (v := .ref r0_9) (C := RX4) (T := TX4) (N := 10) hx hb hts zn_X4_prepare_X4 hown hK hP 0 rfl rfl 9 (of_decide_eq_true rfl) (hts (.fieldLink RX4 33 "ShortEnough$Numbers" "amount" "[I") zw_X4_prepare_341) (fun _ h9 => h9) rfl dX4_prepare_33 ?_
    refine lv_iconst (v := 2) hx hb dX4_prepare_36 zci_2 ?_
    refine lv_aload_n hx hb dX4_prepare_37 rfl (lv_at hl 0 rfl) ?_
    refine va_get (D := (dC, dI)) (ci := 4) (v := .int v0_0) (C := RX4) (T := TX4) (N := 10) hx hb hts zn_X4_prepare_X4 hown hK hP 0 rfl rfl 0 (of_decide_eq_true rfl) (hts (.fieldLink RX4 36 "ShortEnough$Numbers" "count" "I") zw_X4_prepare_339) (fun _ h9 => h9) rfl dX4_prepare_38 ?_
    refine lv_imul hx hb dX4_prepare_41 ?_
    refine lv_iload_n hx hb dX4_prepare_42 rfl (lv_at hl 1 rfl) ?_
    refine lv_iadd hx hb dX4_prepare_43 ?_
    refine lv_iload_n hx hb dX4_prepare_44 rfl (lv_at hl 3 rfl) ?_
    refine va_iast hx hb hK hP hD hS 2 1 rfl rfl h_3 dX4_prepare_45 (fun H locs hP hD hS => ?_)
    have hP : va_P (dC, dI) vwCl [zV4 h0 v0_0 v0_1 r0_2 r0_3 r0_4 r0_5 r0_6 r0_7 r0_8 r0_9, zVi r0_8 k1 28 (upd f1 ((2 * v0_0) + p1).toNatClampNeg p2), zVi r0_9 k2 28 (upd f2 ((2 * v0_0) + p1).toNatClampNeg p3)] H := hP
    have hD := zDW hD hP rfl
    have ho := Option.some.inj hfn
    subst ho
    exact zrv hx hb hr hK hP hD hS hQ trivial hlocks dX4_prepare_46
  refine lv_if_eq (tgt := 18) hx hb dX4_prepare_10 (of_decide_eq_true rfl) (fun c_4 => ?_) (fun c_4 => ?_)
  · have hfn := (if_pos c_4).symm.trans hfn
    exact jp_2 () s.heap [] ls hfn hP hD hS (lv_sub hl [0, 1, 2, 3] rfl)
  have hfn := (if_neg c_4).symm.trans hfn
  refine lv_iload_n hx hb dX4_prepare_13 rfl (lv_at hl 1 rfl) ?_
  refine lv_iconst (v := 1) hx hb dX4_prepare_14 zci_1 ?_
  refine lv_icmp_ne (tgt := 46) hx hb dX4_prepare_15 (of_decide_eq_true rfl) (fun c_5 => ?_) (fun c_5 => ?_)
  · have hfn := (if_neg c_5).symm.trans hfn
    have ho := Option.some.inj hfn
    subst ho
    exact zrv hx hb hr hK hP hD hS hQ trivial hlocks dX4_prepare_46
  have hfn := (if_pos c_5).symm.trans hfn
  exact jp_2 () s.heap [] ls hfn hP hD hS (lv_sub hl [0, 1, 2, 3] rfl)
theorem zn_X4_letsOf_X4 : ∀ w ∈ wsX40, w ∈ wsX4_letsOf := fun _ h => List.mem_cons_of_mem _ (List.mem_append_right _ h)
theorem zw_X4_letsOf_351 : Cond.fieldLink RX4 30 "ShortEnough$Numbers" "made" "[I" ∈ wsX4_letsOf := List.mem_of_getElem? (i := 1) (by decide +kernel)
theorem zw_X4_letsOf_352 : Cond.fieldLink RX4 36 "ShortEnough$Numbers" "count" "I" ∈ wsX4_letsOf := List.mem_of_getElem? (i := 2) (by decide +kernel)
theorem zw_X4_letsOf_353 : Cond.fieldLink RX4 24 "ShortEnough$Numbers" "lets" "[I" ∈ wsX4_letsOf := List.mem_of_getElem? (i := 3) (by decide +kernel)
set_option maxHeartbeats 4000000 in
set_option maxRecDepth 100000 in
theorem zf_X4_letsOf (l : Launch) (dC : Nat → ClassId) (dI : Nat → Nat → Nat) (h0 : Nat) (p1 : Int32) (v0_0 : Int32) (v0_1 : Int32) (r0_2 : Nat) (r0_3 : Nat) (r0_4 : Nat) (r0_5 : Nat) (r0_6 : Nat) (r0_7 : Nat) (r0_8 : Nat) (r0_9 : Nat) (k1 : Nat) (f1 : Nat → Int32) (k2 : Nat) (f2 : Nat → Int32) (o : Int32) (hfn : fn_X4_letsOf p1 v0_0 f1 f2 = some o) (sz : Nat) : zMi l yX4_letsOf wsX4_letsOf ({ frames := 0, cells := 0, slots := 0, locals := 0 }) (dC, dI) vwCl [.ref h0, .int p1] [zV4 h0 v0_0 v0_1 r0_2 r0_3 r0_4 r0_5 r0_6 r0_7 r0_8 r0_9, zVi r0_8 k1 28 f1, zVi r0_6 k2 14 f2] [(k1, .int), (k2, .int)] (fun r _ => r = o) [zV4 h0 v0_0 v0_1 r0_2 r0_3 r0_4 r0_5 r0_6 r0_7 r0_8 r0_9, zVi r0_8 k1 28 f1, zVi r0_6 k2 14 f2] [(k1, .int), (k2, .int)] sz := by
  refine zgoi (cc := cX4_letsOf) (maxL := 3) (ret := (some .int)) (C0 := RX4) (lv0 := [(0, .ref h0), (1, .int p1)]) zpl_X4 rfl rfl rfl (Nat.le_of_ble_eq_true rfl) ?_
  intro p e s m below meth c A ls Q hx hb hr hts hown hlocks hml hP hK hD hA hS hl hQ
  unfold fn_X4_letsOf at hfn
  refine lv_aload_n hx hb dX4_letsOf_0 rfl (lv_at hl 0 rfl) ?_
  refine va_get (D := (dC, dI)) (ci := 4) (v := .ref r0_8) (C := RX4) (T := TX4) (N := 10) hx hb hts zn_X4_letsOf_X4 hown hK hP 0 rfl rfl 8 (of_decide_eq_true rfl) (hts (.fieldLink RX4 30 "ShortEnough$Numbers" "made" "[I") zw_X4_letsOf_351) (fun _ h9 => h9) rfl dX4_letsOf_1 ?_
  refine lv_iconst (v := 2) hx hb dX4_letsOf_4 zci_2 ?_
  refine lv_aload_n hx hb dX4_letsOf_5 rfl (lv_at hl 0 rfl) ?_
  refine va_get (D := (dC, dI)) (ci := 4) (v := .int v0_0) (C := RX4) (T := TX4) (N := 10) hx hb hts zn_X4_letsOf_X4 hown hK hP 0 rfl rfl 0 (of_decide_eq_true rfl) (hts (.fieldLink RX4 36 "ShortEnough$Numbers" "count" "I") zw_X4_letsOf_352) (fun _ h9 => h9) rfl dX4_letsOf_6 ?_
  refine lv_imul hx hb dX4_letsOf_9 ?_
  refine lv_iload_n hx hb dX4_letsOf_10 rfl (lv_at hl 1 rfl) ?_
  refine lv_iadd hx hb dX4_letsOf_11 ?_
  obtain ⟨h_1, hfn⟩ := zg_s hfn
  refine va_iald hx hb hK hP 1 0 rfl rfl h_1 dX4_letsOf_12 ?_
  refine lv_istore_n (lv' := [(2, .int (f1 ((2 * v0_0) + p1).toNatClampNeg)), (0, .ref h0), (1, .int p1)]) hx hb dX4_letsOf_13 rfl hl (of_decide_eq_true rfl) rfl (fun ls hl => ?_)
  refine lv_iload_n hx hb dX4_letsOf_14 rfl (lv_at hl 0 rfl) ?_
  refine lv_if_lt (tgt := 35) hx hb dX4_letsOf_15 (of_decide_eq_true rfl) (fun c_2 => ?_) (fun c_2 => ?_)
  · have hfn := (if_pos c_2).symm.trans hfn
    refine lv_iconst (v := 0) hx hb dX4_letsOf_35 zci_0 ?_
    have ho := Option.some.inj hfn
    subst ho
    exact zri hx hb hr hK hP hD hS hQ rfl hlocks dX4_letsOf_36
  have hfn := (if_neg c_2).symm.trans hfn
  refine lv_iload_n hx hb dX4_letsOf_18 rfl (lv_at hl 0 rfl) ?_
  refine lv_aload_n hx hb dX4_letsOf_19 rfl (lv_at hl 1 rfl) ?_
  refine va_get (D := (dC, dI)) (ci := 4) (v := .int v0_0) (C := RX4) (T := TX4) (N := 10) hx hb hts zn_X4_letsOf_X4 hown hK hP 0 rfl rfl 0 (of_decide_eq_true rfl) (hts (.fieldLink RX4 36 "ShortEnough$Numbers" "count" "I") zw_X4_letsOf_352) (fun _ h9 => h9) rfl dX4_letsOf_20 ?_
  refine lv_icmp_ge (tgt := 35) hx hb dX4_letsOf_23 (of_decide_eq_true rfl) (fun c_3 => ?_) (fun c_3 => ?_)
  · have hfn := (if_pos c_3).symm.trans hfn
    refine lv_iconst (v := 0) hx hb dX4_letsOf_35 zci_0 ?_
    have ho := Option.some.inj hfn
    subst ho
    exact zri hx hb hr hK hP hD hS hQ rfl hlocks dX4_letsOf_36
  have hfn := (if_neg c_3).symm.trans hfn
  refine lv_aload_n hx hb dX4_letsOf_26 rfl (lv_at hl 1 rfl) ?_
  refine va_get (D := (dC, dI)) (ci := 4) (v := .ref r0_6) (C := RX4) (T := TX4) (N := 10) hx hb hts zn_X4_letsOf_X4 hown hK hP 0 rfl rfl 6 (of_decide_eq_true rfl) (hts (.fieldLink RX4 24 "ShortEnough$Numbers" "lets" "[I") zw_X4_letsOf_353) (fun _ h9 => h9) rfl dX4_letsOf_27 ?_
  refine lv_iload_n hx hb dX4_letsOf_30 rfl (lv_at hl 0 rfl) ?_
  obtain ⟨h_4, hfn⟩ := zg_s hfn
  refine va_iald hx hb hK hP 2 1 rfl rfl h_4 dX4_letsOf_31 ?_
  refine lv_goto (tgt := 36) hx hb dX4_letsOf_32 (of_decide_eq_true rfl) ?_
  have ho := Option.some.inj hfn
  subst ho
  exact zri hx hb hr hK hP hD hS hQ rfl hlocks dX4_letsOf_36
theorem zn_X4_add_X4 : ∀ w ∈ wsX40, w ∈ wsX4_add := fun _ h => List.mem_cons_of_mem _ (List.mem_append_right _ h)
theorem zw_X4_add_343 : Cond.fieldLink RX4 36 "ShortEnough$Numbers" "count" "I" ∈ wsX4_add := List.mem_of_getElem? (i := 1) (by decide +kernel)
theorem zw_X4_add_344 : Cond.fieldLink RX4 9 "ShortEnough$Numbers" "name" "[I" ∈ wsX4_add := List.mem_of_getElem? (i := 2) (by decide +kernel)
theorem zw_X4_add_345 : Cond.fieldLink RX4 15 "ShortEnough$Numbers" "op" "[I" ∈ wsX4_add := List.mem_of_getElem? (i := 3) (by decide +kernel)
theorem zw_X4_add_346 : Cond.fieldLink RX4 18 "ShortEnough$Numbers" "fixedAs" "[I" ∈ wsX4_add := List.mem_of_getElem? (i := 4) (by decide +kernel)
theorem zw_X4_add_347 : Cond.fieldLink RX4 21 "ShortEnough$Numbers" "allowed" "[I" ∈ wsX4_add := List.mem_of_getElem? (i := 5) (by decide +kernel)
theorem zw_X4_add_348 : Cond.fieldLink RX4 27 "ShortEnough$Numbers" "joined" "[I" ∈ wsX4_add := List.mem_of_getElem? (i := 6) (by decide +kernel)
theorem zw_X4_add_349 : Cond.fieldLink RX4 24 "ShortEnough$Numbers" "lets" "[I" ∈ wsX4_add := List.mem_of_getElem? (i := 7) (by decide +kernel)
theorem zw_X4_add_354 : Cond.methodLink RX4 44 Lib.Math.max.name ∈ wsX4_add := List.mem_of_getElem? (i := 8) (by decide +kernel)
theorem zw_X4_add_355 : Cond.static Lib.Math.max.name ∈ wsX4_add := List.mem_of_getElem? (i := 9) (by decide +kernel)
theorem zw_X4_add_356 : Cond.initialized "java/lang/Math" ∈ wsX4_add := List.mem_of_getElem? (i := 10) (by decide +kernel)
theorem zw_X4_add_357 : Cond.code Lib.Math.max.name Lib.Math.max.code 2 (some .int) ∈ wsX4_add := List.mem_of_getElem? (i := 11) (by decide +kernel)
theorem zw_X4_add_358 : Cond.fieldLink RX4 50 "ShortEnough$Numbers" "inputs" "I" ∈ wsX4_add := List.mem_of_getElem? (i := 12) (by decide +kernel)
set_option maxHeartbeats 4000000 in
set_option maxRecDepth 100000 in
theorem zf_X4_add (l : Launch) (dC : Nat → ClassId) (dI : Nat → Nat → Nat) (h0 : Nat) (p1 : Int32) (p2 : Int32) (v0_0 : Int32) (v0_1 : Int32) (r0_2 : Nat) (r0_3 : Nat) (r0_4 : Nat) (r0_5 : Nat) (r0_6 : Nat) (r0_7 : Nat) (r0_8 : Nat) (r0_9 : Nat) (k1 : Nat) (f1 : Nat → Int32) (k2 : Nat) (f2 : Nat → Int32) (k3 : Nat) (f3 : Nat → Int32) (k4 : Nat) (f4 : Nat → Int32) (k5 : Nat) (f5 : Nat → Int32) (k6 : Nat) (f6 : Nat → Int32) (k7 : Nat) (f7 : Nat → Int32) (o : Int32 × Int32 × (Nat → Int32) × (Nat → Int32) × (Nat → Int32) × (Nat → Int32) × (Nat → Int32) × (Nat → Int32)) (hfn : fn_X4_add p1 p2 v0_0 v0_1 f1 f2 f3 f4 f5 f6 f7 = some o) (sz : Nat) : zMv l yX4_add wsX4_add ({ frames := 1, cells := 0, slots := 0, locals := 30 }) (dC, dI) vwCl [.ref h0, .int p1, .int p2] [zV4 h0 v0_0 v0_1 r0_2 r0_3 r0_4 r0_5 r0_6 r0_7 r0_8 r0_9, zVi r0_2 k1 14 f1, zVi r0_3 k2 14 f2, zVi r0_4 k3 14 f3, zVi r0_5 k4 14 f4, zVi r0_7 k5 14 f5, zVi r0_8 k6 28 f6, zVi r0_6 k7 14 f7] [(k1, .int), (k2, .int), (k3, .int), (k4, .int), (k5, .int), (k6, .int), (k7, .int)] (fun _ => True) [zV4 h0 o.1 o.2.1 r0_2 r0_3 r0_4 r0_5 r0_6 r0_7 r0_8 r0_9, zVi r0_2 k1 14 o.2.2.1, zVi r0_3 k2 14 o.2.2.2.1, zVi r0_4 k3 14 o.2.2.2.2.1, zVi r0_5 k4 14 o.2.2.2.2.2.1, zVi r0_7 k5 14 o.2.2.2.2.2.2.1, zVi r0_8 k6 28 f6, zVi r0_6 k7 14 o.2.2.2.2.2.2.2] [(k1, .int), (k2, .int), (k3, .int), (k4, .int), (k5, .int), (k6, .int), (k7, .int)] sz := by
  refine zgov (cc := cX4_add) (maxL := 3) (ret := none) (C0 := RX4) (lv0 := [(0, .ref h0), (1, .int p1), (2, .int p2)]) zpl_X4 rfl rfl rfl (Nat.le_of_ble_eq_true rfl) ?_
  intro p e s m below meth c A ls Q hx hb hr hts hown hlocks hml hP hK hD hA hS hl hQ
  unfold fn_X4_add at hfn
  refine lv_aload_n hx hb dX4_add_0 rfl (lv_at hl 0 rfl) ?_
  refine va_get (D := (dC, dI)) (ci := 4) (v := .int v0_0) (C := RX4) (T := TX4) (N := 10) hx hb hts zn_X4_add_X4 hown hK hP 0 rfl rfl 0 (of_decide_eq_true rfl) (hts (.fieldLink RX4 36 "ShortEnough$Numbers" "count" "I") zw_X4_add_343) (fun _ h9 => h9) rfl dX4_add_1 ?_
  refine lv_bipush (v := 14) hx hb dX4_add_4 zcb_14 ?_
  refine lv_icmp_lt (tgt := 10) hx hb dX4_add_6 (of_decide_eq_true rfl) (fun c_1 => ?_) (fun c_1 => ?_)
  · have hfn := (if_pos c_1).symm.trans hfn
    refine lv_aload_n hx hb dX4_add_10 rfl (lv_at hl 0 rfl) ?_
    refine va_get (D := (dC, dI)) (ci := 4) (v := .ref r0_2) (C := RX4) (T := TX4) (N := 10) hx hb hts zn_X4_add_X4 hown hK hP 0 rfl rfl 2 (of_decide_eq_true rfl) (hts (.fieldLink RX4 9 "ShortEnough$Numbers" "name" "[I") zw_X4_add_344) (fun _ h9 => h9) rfl dX4_add_11 ?_
    refine lv_aload_n hx hb dX4_add_14 rfl (lv_at hl 0 rfl) ?_
    refine va_get (D := (dC, dI)) (ci := 4) (v := .int v0_0) (C := RX4) (T := TX4) (N := 10) hx hb hts zn_X4_add_X4 hown hK hP 0 rfl rfl 0 (of_decide_eq_true rfl) (hts (.fieldLink RX4 36 "ShortEnough$Numbers" "count" "I") zw_X4_add_343) (fun _ h9 => h9) rfl dX4_add_15 ?_
    refine lv_iload_n hx hb dX4_add_18 rfl (lv_at hl 1 rfl) ?_
    obtain ⟨h_2, hfn⟩ := zg_s hfn
    refine va_iast hx hb hK hP hD hS 1 0 rfl rfl h_2 dX4_add_19 (fun H locs hP hD hS => ?_)
    have hP : va_P (dC, dI) vwCl [zV4 h0 v0_0 v0_1 r0_2 r0_3 r0_4 r0_5 r0_6 r0_7 r0_8 r0_9, zVi r0_2 k1 14 (upd f1 v0_0.toNatClampNeg p1), zVi r0_3 k2 14 f2, zVi r0_4 k3 14 f3, zVi r0_5 k4 14 f4, zVi r0_7 k5 14 f5, zVi r0_8 k6 28 f6, zVi r0_6 k7 14 f7] H := hP
    have hD := zDW hD hP rfl
    refine lv_aload_n hx hb dX4_add_20 rfl (lv_at hl 0 rfl) ?_
    refine va_get (D := (dC, dI)) (ci := 4) (v := .ref r0_3) (C := RX4) (T := TX4) (N := 10) hx hb hts zn_X4_add_X4 hown hK hP 0 rfl rfl 3 (of_decide_eq_true rfl) (hts (.fieldLink RX4 15 "ShortEnough$Numbers" "op" "[I") zw_X4_add_345) (fun _ h9 => h9) rfl dX4_add_21 ?_
    refine lv_aload_n hx hb dX4_add_24 rfl (lv_at hl 0 rfl) ?_
    refine va_get (D := (dC, dI)) (ci := 4) (v := .int v0_0) (C := RX4) (T := TX4) (N := 10) hx hb hts zn_X4_add_X4 hown hK hP 0 rfl rfl 0 (of_decide_eq_true rfl) (hts (.fieldLink RX4 36 "ShortEnough$Numbers" "count" "I") zw_X4_add_343) (fun _ h9 => h9) rfl dX4_add_25 ?_
    refine lv_iload_n hx hb dX4_add_28 rfl (lv_at hl 2 rfl) ?_
    refine va_iast hx hb hK hP hD hS 2 1 rfl rfl h_2 dX4_add_29 (fun H locs hP hD hS => ?_)
    have hP : va_P (dC, dI) vwCl [zV4 h0 v0_0 v0_1 r0_2 r0_3 r0_4 r0_5 r0_6 r0_7 r0_8 r0_9, zVi r0_2 k1 14 (upd f1 v0_0.toNatClampNeg p1), zVi r0_3 k2 14 (upd f2 v0_0.toNatClampNeg p2), zVi r0_4 k3 14 f3, zVi r0_5 k4 14 f4, zVi r0_7 k5 14 f5, zVi r0_8 k6 28 f6, zVi r0_6 k7 14 f7] H := hP
    have hD := zDW hD hP rfl
    refine lv_aload_n hx hb dX4_add_30 rfl (lv_at hl 0 rfl) ?_
    refine va_get (D := (dC, dI)) (ci := 4) (v := .ref r0_4) (C := RX4) (T := TX4) (N := 10) hx hb hts zn_X4_add_X4 hown hK hP 0 rfl rfl 4 (of_decide_eq_true rfl) (hts (.fieldLink RX4 18 "ShortEnough$Numbers" "fixedAs" "[I") zw_X4_add_346) (fun _ h9 => h9) rfl dX4_add_31 ?_
    refine lv_aload_n hx hb dX4_add_34 rfl (lv_at hl 0 rfl) ?_
    refine va_get (D := (dC, dI)) (ci := 4) (v := .int v0_0) (C := RX4) (T := TX4) (N := 10) hx hb hts zn_X4_add_X4 hown hK hP 0 rfl rfl 0 (of_decide_eq_true rfl) (hts (.fieldLink RX4 36 "ShortEnough$Numbers" "count" "I") zw_X4_add_343) (fun _ h9 => h9) rfl dX4_add_35 ?_
    refine lv_iconst (v := (-1)) hx hb dX4_add_38 zci_m1 ?_
    refine va_iast hx hb hK hP hD hS 3 2 rfl rfl h_2 dX4_add_39 (fun H locs hP hD hS => ?_)
    have hP : va_P (dC, dI) vwCl [zV4 h0 v0_0 v0_1 r0_2 r0_3 r0_4 r0_5 r0_6 r0_7 r0_8 r0_9, zVi r0_2 k1 14 (upd f1 v0_0.toNatClampNeg p1), zVi r0_3 k2 14 (upd f2 v0_0.toNatClampNeg p2), zVi r0_4 k3 14 (upd f3 v0_0.toNatClampNeg (-1)), zVi r0_5 k4 14 f4, zVi r0_7 k5 14 f5, zVi r0_8 k6 28 f6, zVi r0_6 k7 14 f7] H := hP
    have hD := zDW hD hP rfl
    refine lv_aload_n hx hb dX4_add_40 rfl (lv_at hl 0 rfl) ?_
    refine va_get (D := (dC, dI)) (ci := 4) (v := .ref r0_5) (C := RX4) (T := TX4) (N := 10) hx hb hts zn_X4_add_X4 hown hK hP 0 rfl rfl 5 (of_decide_eq_true rfl) (hts (.fieldLink RX4 21 "ShortEnough$Numbers" "allowed" "[I") zw_X4_add_347) (fun _ h9 => h9) rfl dX4_add_41 ?_
    refine lv_aload_n hx hb dX4_add_44 rfl (lv_at hl 0 rfl) ?_
    refine va_get (D := (dC, dI)) (ci := 4) (v := .int v0_0) (C := RX4) (T := TX4) (N := 10) hx hb hts zn_X4_add_X4 hown hK hP 0 rfl rfl 0 (of_decide_eq_true rfl) (hts (.fieldLink RX4 36 "ShortEnough$Numbers" "count" "I") zw_X4_add_343) (fun _ h9 => h9) rfl dX4_add_45 ?_
    refine lv_iconst (v := (-1)) hx hb dX4_add_48 zci_m1 ?_
    refine va_iast hx hb hK hP hD hS 4 3 rfl rfl h_2 dX4_add_49 (fun H locs hP hD hS => ?_)
    have hP : va_P (dC, dI) vwCl [zV4 h0 v0_0 v0_1 r0_2 r0_3 r0_4 r0_5 r0_6 r0_7 r0_8 r0_9, zVi r0_2 k1 14 (upd f1 v0_0.toNatClampNeg p1), zVi r0_3 k2 14 (upd f2 v0_0.toNatClampNeg p2), zVi r0_4 k3 14 (upd f3 v0_0.toNatClampNeg (-1)), zVi r0_5 k4 14 (upd f4 v0_0.toNatClampNeg (-1)), zVi r0_7 k5 14 f5, zVi r0_8 k6 28 f6, zVi r0_6 k7 14 f7] H := hP
    have hD := zDW hD hP rfl
    refine lv_aload_n hx hb dX4_add_50 rfl (lv_at hl 0 rfl) ?_
    refine va_get (D := (dC, dI)) (ci := 4) (v := .ref r0_7) (C := RX4) (T := TX4) (N := 10) hx hb hts zn_X4_add_X4 hown hK hP 0 rfl rfl 7 (of_decide_eq_true rfl) (hts (.fieldLink RX4 27 "ShortEnough$Numbers" "joined" "[I") zw_X4_add_348) (fun _ h9 => h9) rfl dX4_add_51 ?_
    refine lv_aload_n hx hb dX4_add_54 rfl (lv_at hl 0 rfl) ?_
    refine va_get (D := (dC, dI)) (ci := 4) (v := .int v0_0) (C := RX4) (T := TX4) (N := 10) hx hb hts zn_X4_add_X4 hown hK hP 0 rfl rfl 0 (of_decide_eq_true rfl) (hts (.fieldLink RX4 36 "ShortEnough$Numbers" "count" "I") zw_X4_add_343) (fun _ h9 => h9) rfl dX4_add_55 ?_
    refine lv_aload_n hx hb dX4_add_58 rfl (lv_at hl 0 rfl) ?_
    refine va_get (D := (dC, dI)) (ci := 4) (v := .int v0_0) (C := RX4) (T := TX4) (N := 10) hx hb hts zn_X4_add_X4 hown hK hP 0 rfl rfl 0 (of_decide_eq_true rfl) (hts (.fieldLink RX4 36 "ShortEnough$Numbers" "count" "I") zw_X4_add_343) (fun _ h9 => h9) rfl dX4_add_59 ?_
    refine va_iast hx hb hK hP hD hS 5 4 rfl rfl h_2 dX4_add_62 (fun H locs hP hD hS => ?_)
    have hP : va_P (dC, dI) vwCl [zV4 h0 v0_0 v0_1 r0_2 r0_3 r0_4 r0_5 r0_6 r0_7 r0_8 r0_9, zVi r0_2 k1 14 (upd f1 v0_0.toNatClampNeg p1), zVi r0_3 k2 14 (upd f2 v0_0.toNatClampNeg p2), zVi r0_4 k3 14 (upd f3 v0_0.toNatClampNeg (-1)), zVi r0_5 k4 14 (upd f4 v0_0.toNatClampNeg (-1)), zVi r0_7 k5 14 (upd f5 v0_0.toNatClampNeg v0_0), zVi r0_8 k6 28 f6, zVi r0_6 k7 14 f7] H := hP
    have hD := zDW hD hP rfl
    refine lv_aload_n hx hb dX4_add_63 rfl (lv_at hl 0 rfl) ?_
    refine va_get (D := (dC, dI)) (ci := 4) (v := .ref r0_6) (C := RX4) (T := TX4) (N := 10) hx hb hts zn_X4_add_X4 hown hK hP 0 rfl rfl 6 (of_decide_eq_true rfl) (hts (.fieldLink RX4 24 "ShortEnough$Numbers" "lets" "[I") zw_X4_add_349) (fun _ h9 => h9) rfl dX4_add_64 ?_
    refine lv_aload_n hx hb dX4_add_67 rfl (lv_at hl 0 rfl) ?_
    refine va_get (D := (dC, dI)) (ci := 4) (v := .int v0_0) (C := RX4) (T := TX4) (N := 10) hx hb hts zn_X4_add_X4 hown hK hP 0 rfl rfl 0 (of_decide_eq_true rfl) (hts (.fieldLink RX4 36 "ShortEnough$Numbers" "count" "I") zw_X4_add_343) (fun _ h9 => h9) rfl dX4_add_68 ?_
    refine lv_iload_n hx hb dX4_add_71 rfl (lv_at hl 2 rfl) ?_
    obtain ⟨j_3, ej_3, hfn⟩ := zj_g hfn
    have jp_3 : ∀ (s_3 : Int32) (H : Heap) (locs : List Loc) (ls : Array Slot), j_3 s_3 = some o → va_P (dC, dI) vwCl [zV4 h0 v0_0 v0_1 r0_2 r0_3 r0_4 r0_5 r0_6 r0_7 r0_8 r0_9, zVi r0_2 k1 14 (upd f1 v0_0.toNatClampNeg p1), zVi r0_3 k2 14 (upd f2 v0_0.toNatClampNeg p2), zVi r0_4 k3 14 (upd f3 v0_0.toNatClampNeg (-1)), zVi r0_5 k4 14 (upd f4 v0_0.toNatClampNeg (-1)), zVi r0_7 k5 14 (upd f5 v0_0.toNatClampNeg v0_0), zVi r0_8 k6 28 f6, zVi r0_6 k7 14 f7] H → va_D A [zV4 h0 v0_0 v0_1 r0_2 r0_3 r0_4 r0_5 r0_6 r0_7 r0_8 r0_9, zVi r0_2 k1 14 (upd f1 v0_0.toNatClampNeg p1), zVi r0_3 k2 14 (upd f2 v0_0.toNatClampNeg p2), zVi r0_4 k3 14 (upd f3 v0_0.toNatClampNeg (-1)), zVi r0_5 k4 14 (upd f4 v0_0.toNatClampNeg (-1)), zVi r0_7 k5 14 (upd f5 v0_0.toNatClampNeg v0_0), zVi r0_8 k6 28 f6, zVi r0_6 k7 14 f7] → va_S A s.heap H locs → lv_has ls 3 [(0, .ref h0), (2, .int p2)] → W p l e (headSpec wsX4_add ({ frames := 1, cells := 0, slots := 0, locals := 30 })).room s m ([.ref h0, .int p1, .int p2] : List Value).toArray below meth c H locs 0 0 Q (F0 m 94 ls [.int s_3, .int v0_0, .ref r0_6]) := by
      intro s_3 H locs ls hfn hP hD hS hl
      have hfn := zj_s ej_3 hfn
      obtain ⟨h_4, hfn⟩ := zg_s hfn
      refine va_iast hx hb hK hP hD hS 7 6 rfl rfl h_4 dX4_add_94 (fun H locs hP hD hS => ?_)
      have hP : va_P (dC, dI) vwCl [zV4 h0 v0_0 v0_1 r0_2 r0_3 r0_4 r0_5 r0_6 r0_7 r0_8 r0_9, zVi r0_2 k1 14 (upd f1 v0_0.toNatClampNeg p1), zVi r0_3 k2 14 (upd f2 v0_0.toNatClampNeg p2), zVi r0_4 k3 14 (upd f3 v0_0.toNatClampNeg (-1)), zVi r0_5 k4 14 (upd f4 v0_0.toNatClampNeg (-1)), zVi r0_7 k5 14 (upd f5 v0_0.toNatClampNeg v0_0), zVi r0_8 k6 28 f6, zVi r0_6 k7 14 (upd f7 v0_0.toNatClampNeg s_3)] H := hP
      have hD := zDW hD hP rfl
      refine lv_aload_n hx hb dX4_add_95 rfl (lv_at hl 0 rfl) ?_
      refine lv_dup hx hb dX4_add_96 rfl ?_
      refine va_get (D := (dC, dI)) (ci := 4) (v := .int v0_1) (C := RX4) (T := TX4) (N := 10) hx hb hts zn_X4_add_X4 hown hK hP 0 rfl rfl 1 (of_decide_eq_true rfl) (hts (.fieldLink RX4 50 "ShortEnough$Numbers" "inputs" "I") zw_X4_add_358) (fun _ h9 => h9) rfl dX4_add_97 ?_
      refine lv_iload_n hx hb dX4_add_100 rfl (lv_at hl 1 rfl) ?_
      obtain ⟨j_5, ej_5, hfn⟩ := zj_g hfn
      have jp_5 : ∀ (s_5 : Int32) (H : Heap) (locs : List Loc) (ls : Array Slot), j_5 s_5 = some o → va_P (dC, dI) vwCl [zV4 h0 v0_0 v0_1 r0_2 r0_3 r0_4 r0_5 r0_6 r0_7 r0_8 r0_9, zVi r0_2 k1 14 (upd f1 v0_0.toNatClampNeg p1), zVi r0_3 k2 14 (upd f2 v0_0.toNatClampNeg p2), zVi r0_4 k3 14 (upd f3 v0_0.toNatClampNeg (-1)), zVi r0_5 k4 14 (upd f4 v0_0.toNatClampNeg (-1)), zVi r0_7 k5 14 (upd f5 v0_0.toNatClampNeg v0_0), zVi r0_8 k6 28 f6, zVi r0_6 k7 14 (upd f7 v0_0.toNatClampNeg s_3)] H → va_D A [zV4 h0 v0_0 v0_1 r0_2 r0_3 r0_4 r0_5 r0_6 r0_7 r0_8 r0_9, zVi r0_2 k1 14 (upd f1 v0_0.toNatClampNeg p1), zVi r0_3 k2 14 (upd f2 v0_0.toNatClampNeg p2), zVi r0_4 k3 14 (upd f3 v0_0.toNatClampNeg (-1)), zVi r0_5 k4 14 (upd f4 v0_0.toNatClampNeg (-1)), zVi r0_7 k5 14 (upd f5 v0_0.toNatClampNeg v0_0), zVi r0_8 k6 28 f6, zVi r0_6 k7 14 (upd f7 v0_0.toNatClampNeg s_3)] → va_S A s.heap H locs → lv_has ls 3 [(0, .ref h0)] → W p l e (headSpec wsX4_add ({ frames := 1, cells := 0, slots := 0, locals := 30 })).room s m ([.ref h0, .int p1, .int p2] : List Value).toArray below meth c H locs 0 0 Q (F0 m 109 ls [.int s_5, .int v0_1, .ref h0]) := by
        intro s_5 H locs ls hfn hP hD hS hl
        have hfn := zj_s ej_5 hfn
        refine lv_iadd hx hb dX4_add_109 ?_
        refine va_put (D := (dC, dI)) (ci := 4) (v := .int (v0_1 + s_5)) (ty := .int) (C := RX4) (T := TX4) (N := 10) hx hb hts zn_X4_add_X4 tyX4 tyX4_ok nmX4 hown hK hP hD hS 0 rfl rfl 1 (of_decide_eq_true rfl) (hts (.fieldLink RX4 50 "ShortEnough$Numbers" "inputs" "I") zw_X4_add_358) (fun _ h9 => h9) rfl (tyX4_ok 1 (of_decide_eq_true rfl)) rfl rfl (Nat.le_of_ble_eq_true rfl) dX4_add_110 (fun H locs hP hD hS => ?_)
        have hP : va_P (dC, dI) vwCl [zV4 h0 v0_0 (v0_1 + s_5) r0_2 r0_3 r0_4 r0_5 r0_6 r0_7 r0_8 r0_9, zVi r0_2 k1 14 (upd f1 v0_0.toNatClampNeg p1), zVi r0_3 k2 14 (upd f2 v0_0.toNatClampNeg p2), zVi r0_4 k3 14 (upd f3 v0_0.toNatClampNeg (-1)), zVi r0_5 k4 14 (upd f4 v0_0.toNatClampNeg (-1)), zVi r0_7 k5 14 (upd f5 v0_0.toNatClampNeg v0_0), zVi r0_8 k6 28 f6, zVi r0_6 k7 14 (upd f7 v0_0.toNatClampNeg s_3)] H := hP
        have hD := zDW hD hP rfl
        refine lv_aload_n hx hb dX4_add_113 rfl (lv_at hl 0 rfl) ?_
        refine lv_dup hx hb dX4_add_114 rfl ?_
        refine va_get (D := (dC, dI)) (ci := 4) (v := .int v0_0) (C := RX4) (T := TX4) (N := 10) hx hb hts zn_X4_add_X4 hown hK hP 0 rfl rfl 0 (of_decide_eq_true rfl) (hts (.fieldLink RX4 36 "ShortEnough$Numbers" "count" "I") zw_X4_add_343) (fun _ h9 => h9) rfl dX4_add_115 ?_
        refine lv_iconst (v := 1) hx hb dX4_add_118 zci_1 ?_
        refine lv_iadd hx hb dX4_add_119 ?_
        refine va_put (D := (dC, dI)) (ci := 4) (v := .int (v0_0 + 1)) (ty := .int) (C := RX4) (T := TX4) (N := 10) hx hb hts zn_X4_add_X4 tyX4 tyX4_ok nmX4 hown hK hP hD hS 0 rfl rfl 0 (of_decide_eq_true rfl) (hts (.fieldLink RX4 36 "ShortEnough$Numbers" "count" "I") zw_X4_add_343) (fun _ h9 => h9) rfl (tyX4_ok 0 (of_decide_eq_true rfl)) rfl rfl (Nat.le_of_ble_eq_true rfl) dX4_add_120 (fun H locs hP hD hS => ?_)
        have hP : va_P (dC, dI) vwCl [zV4 h0 (v0_0 + 1) (v0_1 + s_5) r0_2 r0_3 r0_4 r0_5 r0_6 r0_7 r0_8 r0_9, zVi r0_2 k1 14 (upd f1 v0_0.toNatClampNeg p1), zVi r0_3 k2 14 (upd f2 v0_0.toNatClampNeg p2), zVi r0_4 k3 14 (upd f3 v0_0.toNatClampNeg (-1)), zVi r0_5 k4 14 (upd f4 v0_0.toNatClampNeg (-1)), zVi r0_7 k5 14 (upd f5 v0_0.toNatClampNeg v0_0), zVi r0_8 k6 28 f6, zVi r0_6 k7 14 (upd f7 v0_0.toNatClampNeg s_3)] H := hP
        have hD := zDW hD hP rfl
        have ho := Option.some.inj hfn
        subst ho
        exact zrv hx hb hr hK hP hD hS hQ trivial hlocks dX4_add_123
      refine lv_if_ne (tgt := 108) hx hb dX4_add_101 (of_decide_eq_true rfl) (fun c_6 => ?_) (fun c_6 => ?_)
      · have hfn := (if_neg c_6).symm.trans hfn
        refine lv_iconst (v := 0) hx hb dX4_add_108 zci_0 ?_
        exact jp_5 0 H locs ls hfn hP hD hS (lv_sub hl [0] rfl)
      have hfn := (if_pos c_6).symm.trans hfn
      refine lv_iconst (v := 1) hx hb dX4_add_104 zci_1 ?_
      refine lv_goto (tgt := 109) hx hb dX4_add_105 (of_decide_eq_true rfl) ?_
      exact jp_5 1 H locs ls hfn hP hD hS (lv_sub hl [0] rfl)
    refine lv_if_ne (tgt := 79) hx hb dX4_add_72 (of_decide_eq_true rfl) (fun c_7 => ?_) (fun c_7 => ?_)
    · have hfn := (if_neg c_7).symm.trans hfn
      refine lv_iconst (v := 1) hx hb dX4_add_79 zci_1 ?_
      refine lv_aload_n hx hb dX4_add_80 rfl (lv_at hl 0 rfl) ?_
      refine lv_iconst (v := 0) hx hb dX4_add_81 zci_0 ?_
      obtain ⟨o_8, hqo_8, hfn⟩ := zb_s hfn
      refine zcVi (ci := 4) (rest := [.int 1, .int v0_0, .ref r0_6]) (pc' := 85) (ws' := [zV4 h0 v0_0 v0_1 r0_2 r0_3 r0_4 r0_5 r0_6 r0_7 r0_8 r0_9, zVi r0_2 k1 14 (upd f1 v0_0.toNatClampNeg p1), zVi r0_3 k2 14 (upd f2 v0_0.toNatClampNeg p2), zVi r0_4 k3 14 (upd f3 v0_0.toNatClampNeg (-1)), zVi r0_5 k4 14 (upd f4 v0_0.toNatClampNeg (-1)), zVi r0_7 k5 14 (upd f5 v0_0.toNatClampNeg v0_0), zVi r0_8 k6 28 f6, zVi r0_6 k7 14 f7]) hP hK hD hS hA ⟨hx, hb, hml, hown, hts⟩ (zf_X4_letsOf l dC dI h0 0 v0_0 v0_1 r0_2 r0_3 r0_4 r0_5 r0_6 r0_7 r0_8 r0_9 k6 f6 k7 f7 o_8 hqo_8 H.size) (cwV 1 hts gX4_add_X4_letsOf rfl rfl rfl zhd_X4_letsOf ⟨Nat.le_of_ble_eq_true rfl, Nat.le_of_ble_eq_true rfl⟩) [0, 6, 7] rfl (of_decide_eq_true rfl) [5, 6] rfl rfl rfl rfl hl.1 rfl (Nat.le_of_ble_eq_true rfl) dX4_add_82 ⟨Nat.le_of_ble_eq_true rfl, Nat.le_of_ble_eq_true rfl⟩ [some 0, none, none, none, none, none, some 1, some 2] (of_decide_eq_true rfl) (of_decide_eq_true rfl) rfl rfl rfl (fun H locs hP hD hS => ?_)
      refine lv_aload_n hx hb dX4_add_85 rfl (lv_at hl 0 rfl) ?_
      refine lv_iconst (v := 1) hx hb dX4_add_86 zci_1 ?_
      obtain ⟨o_12, hqo_12, hfn⟩ := zb_s hfn
      refine zcVi (ci := 4) (rest := [.int o_8, .int 1, .int v0_0, .ref r0_6]) (pc' := 90) (ws' := [zV4 h0 v0_0 v0_1 r0_2 r0_3 r0_4 r0_5 r0_6 r0_7 r0_8 r0_9, zVi r0_2 k1 14 (upd f1 v0_0.toNatClampNeg p1), zVi r0_3 k2 14 (upd f2 v0_0.toNatClampNeg p2), zVi r0_4 k3 14 (upd f3 v0_0.toNatClampNeg (-1)), zVi r0_5 k4 14 (upd f4 v0_0.toNatClampNeg (-1)), zVi r0_7 k5 14 (upd f5 v0_0.toNatClampNeg v0_0), zVi r0_8 k6 28 f6, zVi r0_6 k7 14 f7]) hP hK hD hS hA ⟨hx, hb, hml, hown, hts⟩ (zf_X4_letsOf l dC dI h0 1 v0_0 v0_1 r0_2 r0_3 r0_4 r0_5 r0_6 r0_7 r0_8 r0_9 k6 f6 k7 f7 o_12 hqo_12 H.size) (cwV 1 hts gX4_add_X4_letsOf rfl rfl rfl zhd_X4_letsOf ⟨Nat.le_of_ble_eq_true rfl, Nat.le_of_ble_eq_true rfl⟩) [0, 6, 7] rfl (of_decide_eq_true rfl) [5, 6] rfl rfl rfl rfl hl.1 rfl (Nat.le_of_ble_eq_true rfl) dX4_add_87 ⟨Nat.le_of_ble_eq_true rfl, Nat.le_of_ble_eq_true rfl⟩ [some 0, none, none, none, none, none, some 1, some 2] (of_decide_eq_true rfl) (of_decide_eq_true rfl) rfl rfl rfl (fun H locs hP hD hS => ?_)
      refine va_mmax hx hb (by rw [hml]; exact hl.1.symm) hown (hts (.methodLink RX4 44 Lib.Math.max.name) zw_X4_add_354) (hts (.static Lib.Math.max.name) zw_X4_add_355) (hts (.initialized "java/lang/Math") zw_X4_add_356) (hts (.code Lib.Math.max.name Lib.Math.max.code 2 (some .int)) zw_X4_add_357) (Nat.le_of_ble_eq_true rfl) (Nat.le_of_ble_eq_true rfl) (Nat.le_of_ble_eq_true rfl) (Nat.le_of_ble_eq_true rfl) dX4_add_90 ?_
      refine lv_iadd hx hb dX4_add_93 ?_
      exact jp_3 (1 + (if o_8 < o_12 then o_12 else o_8)) H locs ls hfn hP hD hS (lv_sub hl [0, 2] rfl)
    have hfn := (if_pos c_7).symm.trans hfn
    refine lv_iconst (v := 0) hx hb dX4_add_75 zci_0 ?_
    refine lv_goto (tgt := 94) hx hb dX4_add_76 (of_decide_eq_true rfl) ?_
    exact jp_3 0 H locs ls hfn hP hD hS (lv_sub hl [0, 2] rfl)
  have hfn := (if_neg c_1).symm.trans hfn
  have ho := Option.some.inj hfn
  subst ho
  exact zrv hx hb hr hK hP hD hS hQ trivial hlocks dX4_add_9
theorem zn_X4_join_X4 : ∀ w ∈ wsX40, w ∈ wsX4_join := fun _ h => List.mem_cons_of_mem _ (List.mem_append_right _ h)
theorem zw_X4_join_360 : Cond.fieldLink RX4 36 "ShortEnough$Numbers" "count" "I" ∈ wsX4_join := List.mem_of_getElem? (i := 1) (by decide +kernel)
theorem zw_X4_join_361 : Cond.fieldLink RX4 27 "ShortEnough$Numbers" "joined" "[I" ∈ wsX4_join := List.mem_of_getElem? (i := 2) (by decide +kernel)
set_option maxHeartbeats 4000000 in
set_option maxRecDepth 100000 in
theorem zf_X4_join (l : Launch) (dC : Nat → ClassId) (dI : Nat → Nat → Nat) (h0 : Nat) (p1 : Int32) (p2 : Int32) (v0_0 : Int32) (v0_1 : Int32) (r0_2 : Nat) (r0_3 : Nat) (r0_4 : Nat) (r0_5 : Nat) (r0_6 : Nat) (r0_7 : Nat) (r0_8 : Nat) (r0_9 : Nat) (k1 : Nat) (f1 : Nat → Int32) (o : (Nat → Int32)) (hfn : fn_X4_join p1 p2 v0_0 f1 = some o) (sz : Nat) : zMv l yX4_join wsX4_join ({ frames := 0, cells := 0, slots := 0, locals := 0 }) (dC, dI) vwCl [.ref h0, .int p1, .int p2] [zV4 h0 v0_0 v0_1 r0_2 r0_3 r0_4 r0_5 r0_6 r0_7 r0_8 r0_9, zVi r0_7 k1 14 f1] [(k1, .int)] (fun _ => True) [zV4 h0 v0_0 v0_1 r0_2 r0_3 r0_4 r0_5 r0_6 r0_7 r0_8 r0_9, zVi r0_7 k1 14 o] [(k1, .int)] sz := by
  refine zgov (cc := cX4_join) (maxL := 5) (ret := none) (C0 := RX4) (lv0 := [(0, .ref h0), (1, .int p1), (2, .int p2)]) zpl_X4 rfl rfl rfl (Nat.le_of_ble_eq_true rfl) ?_
  intro p e s m below meth c A ls Q hx hb hr hts hown hlocks hml hP hK hD hA hS hl hQ
  unfold fn_X4_join at hfn
  refine lv_iload_n hx hb dX4_join_0 rfl (lv_at hl 1 rfl) ?_
  refine lv_if_lt (tgt := 24) hx hb dX4_join_1 (of_decide_eq_true rfl) (fun c_1 => ?_) (fun c_1 => ?_)
  · have hfn := (if_pos c_1).symm.trans hfn
    have ho := Option.some.inj hfn
    subst ho
    exact zrv hx hb hr hK hP hD hS hQ trivial hlocks dX4_join_24
  have hfn := (if_neg c_1).symm.trans hfn
  refine lv_iload_n hx hb dX4_join_4 rfl (lv_at hl 1 rfl) ?_
  refine lv_aload_n hx hb dX4_join_5 rfl (lv_at hl 0 rfl) ?_
  refine va_get (D := (dC, dI)) (ci := 4) (v := .int v0_0) (C := RX4) (T := TX4) (N := 10) hx hb hts zn_X4_join_X4 hown hK hP 0 rfl rfl 0 (of_decide_eq_true rfl) (hts (.fieldLink RX4 36 "ShortEnough$Numbers" "count" "I") zw_X4_join_360) (fun _ h9 => h9) rfl dX4_join_6 ?_
  refine lv_icmp_ge (tgt := 24) hx hb dX4_join_9 (of_decide_eq_true rfl) (fun c_2 => ?_) (fun c_2 => ?_)
  · have hfn := (if_pos c_2).symm.trans hfn
    have ho := Option.some.inj hfn
    subst ho
    exact zrv hx hb hr hK hP hD hS hQ trivial hlocks dX4_join_24
  have hfn := (if_neg c_2).symm.trans hfn
  refine lv_iload_n hx hb dX4_join_12 rfl (lv_at hl 2 rfl) ?_
  refine lv_if_lt (tgt := 24) hx hb dX4_join_13 (of_decide_eq_true rfl) (fun c_3 => ?_) (fun c_3 => ?_)
  · have hfn := (if_pos c_3).symm.trans hfn
    have ho := Option.some.inj hfn
    subst ho
    exact zrv hx hb hr hK hP hD hS hQ trivial hlocks dX4_join_24
  have hfn := (if_neg c_3).symm.trans hfn
  refine lv_iload_n hx hb dX4_join_16 rfl (lv_at hl 2 rfl) ?_
  refine lv_aload_n hx hb dX4_join_17 rfl (lv_at hl 0 rfl) ?_
  refine va_get (D := (dC, dI)) (ci := 4) (v := .int v0_0) (C := RX4) (T := TX4) (N := 10) hx hb hts zn_X4_join_X4 hown hK hP 0 rfl rfl 0 (of_decide_eq_true rfl) (hts (.fieldLink RX4 36 "ShortEnough$Numbers" "count" "I") zw_X4_join_360) (fun _ h9 => h9) rfl dX4_join_18 ?_
  refine lv_icmp_lt (tgt := 25) hx hb dX4_join_21 (of_decide_eq_true rfl) (fun c_4 => ?_) (fun c_4 => ?_)
  · have hfn := (if_pos c_4).symm.trans hfn
    refine lv_aload_n hx hb dX4_join_25 rfl (lv_at hl 0 rfl) ?_
    refine va_get (D := (dC, dI)) (ci := 4) (v := .ref r0_7) (C := RX4) (T := TX4) (N := 10) hx hb hts zn_X4_join_X4 hown hK hP 0 rfl rfl 7 (of_decide_eq_true rfl) (hts (.fieldLink RX4 27 "ShortEnough$Numbers" "joined" "[I") zw_X4_join_361) (fun _ h9 => h9) rfl dX4_join_26 ?_
    refine lv_iload_n hx hb dX4_join_29 rfl (lv_at hl 2 rfl) ?_
    obtain ⟨h_5, hfn⟩ := zg_s hfn
    refine va_iald hx hb hK hP 1 0 rfl rfl h_5 dX4_join_30 ?_
    refine lv_istore_n (lv' := [(3, .int (f1 p2.toNatClampNeg)), (0, .ref h0), (1, .int p1), (2, .int p2)]) hx hb dX4_join_31 rfl hl (of_decide_eq_true rfl) rfl (fun ls hl => ?_)
    refine lv_iconst (v := 0) hx hb dX4_join_32 zci_0 ?_
    refine lv_istore (lv' := [(4, .int 0), (3, .int (f1 p2.toNatClampNeg)), (0, .ref h0), (1, .int p1), (2, .int p2)]) hx hb dX4_join_33 hl (of_decide_eq_true rfl) rfl (fun ls hl => ?_)
    obtain ⟨bd_6, ebd_6, hfn⟩ := zl_g hfn
    have lp_6 : ∀ (n : Nat) (s_6 : Int32 × (Nat → Int32)) (H : Heap) (locs : List Loc) (ls : Array Slot), zl bd_6 n s_6 = some o → va_P (dC, dI) vwCl [zV4 h0 v0_0 v0_1 r0_2 r0_3 r0_4 r0_5 r0_6 r0_7 r0_8 r0_9, zVi r0_7 k1 14 s_6.2] H → va_D A [zV4 h0 v0_0 v0_1 r0_2 r0_3 r0_4 r0_5 r0_6 r0_7 r0_8 r0_9, zVi r0_7 k1 14 s_6.2] → va_S A s.heap H locs → lv_has ls 5 [(4, .int s_6.1), (3, .int (f1 p2.toNatClampNeg)), (0, .ref h0), (1, .int p1)] → W p l e (headSpec wsX4_join ({ frames := 0, cells := 0, slots := 0, locals := 0 })).room s m ([.ref h0, .int p1, .int p2] : List Value).toArray below meth c H locs 0 0 Q (F0 m 35 ls []) := by
      intro n
      induction n with
      | zero => exact fun _ _ _ _ hfn => (zl_0 hfn).elim
      | succ n ih_6 =>
        intro s_6 H locs ls hfn hP hD hS hl
        have hfn := zl_s ebd_6 hfn
        refine lv_iload hx hb dX4_join_35 (lv_at hl 0 rfl) ?_
        refine lv_aload_n hx hb dX4_join_37 rfl (lv_at hl 2 rfl) ?_
        refine va_get (D := (dC, dI)) (ci := 4) (v := .int v0_0) (C := RX4) (T := TX4) (N := 10) hx hb hts zn_X4_join_X4 hown hK hP 0 rfl rfl 0 (of_decide_eq_true rfl) (hts (.fieldLink RX4 36 "ShortEnough$Numbers" "count" "I") zw_X4_join_360) (fun _ h9 => h9) rfl dX4_join_38 ?_
        refine lv_icmp_ge (tgt := 74) hx hb dX4_join_41 (of_decide_eq_true rfl) (fun c_7 => ?_) (fun c_7 => ?_)
        · have hfn := (if_pos c_7).symm.trans hfn
          have ho := Option.some.inj hfn
          subst ho
          exact zrv hx hb hr hK hP hD hS hQ trivial hlocks dX4_join_74
        have hfn := (if_neg c_7).symm.trans hfn
        refine lv_aload_n hx hb dX4_join_44 rfl (lv_at hl 2 rfl) ?_
        refine va_get (D := (dC, dI)) (ci := 4) (v := .ref r0_7) (C := RX4) (T := TX4) (N := 10) hx hb hts zn_X4_join_X4 hown hK hP 0 rfl rfl 7 (of_decide_eq_true rfl) (hts (.fieldLink RX4 27 "ShortEnough$Numbers" "joined" "[I") zw_X4_join_361) (fun _ h9 => h9) rfl dX4_join_45 ?_
        refine lv_iload hx hb dX4_join_48 (lv_at hl 0 rfl) ?_
        obtain ⟨h_8, hfn⟩ := zg_s hfn
        refine va_iald hx hb hK hP 1 0 rfl rfl h_8 dX4_join_50 ?_
        refine lv_iload_n hx hb dX4_join_51 rfl (lv_at hl 1 rfl) ?_
        refine lv_icmp_ne (tgt := 68) hx hb dX4_join_52 (of_decide_eq_true rfl) (fun c_9 => ?_) (fun c_9 => ?_)
        · have hfn := (if_neg c_9).symm.trans hfn
          refine lv_iinc (v := (s_6.1 + 1)) (lv' := [(4, .int (s_6.1 + 1)), (3, .int (f1 p2.toNatClampNeg)), (0, .ref h0), (1, .int p1)]) hx hb dX4_join_68 hl (k := 0) rfl rfl (of_decide_eq_true rfl) rfl (fun ls hl => ?_)
          refine lv_goto (tgt := 35) hx hb dX4_join_71 (of_decide_eq_true rfl) ?_
          exact ih_6 ((s_6.1 + 1), s_6.2) H locs ls hfn hP hD hS (lv_sub hl [0, 1, 2, 3] rfl)
        have hfn := (if_pos c_9).symm.trans hfn
        refine lv_aload_n hx hb dX4_join_55 rfl (lv_at hl 2 rfl) ?_
        refine va_get (D := (dC, dI)) (ci := 4) (v := .ref r0_7) (C := RX4) (T := TX4) (N := 10) hx hb hts zn_X4_join_X4 hown hK hP 0 rfl rfl 7 (of_decide_eq_true rfl) (hts (.fieldLink RX4 27 "ShortEnough$Numbers" "joined" "[I") zw_X4_join_361) (fun _ h9 => h9) rfl dX4_join_56 ?_
        refine lv_iload hx hb dX4_join_59 (lv_at hl 0 rfl) ?_
        refine lv_aload_n hx hb dX4_join_61 rfl (lv_at hl 2 rfl) ?_
        refine va_get (D := (dC, dI)) (ci := 4) (v := .ref r0_7) (C := RX4) (T := TX4) (N := 10) hx hb hts zn_X4_join_X4 hown hK hP 0 rfl rfl 7 (of_decide_eq_true rfl) (hts (.fieldLink RX4 27 "ShortEnough$Numbers" "joined" "[I") zw_X4_join_361) (fun _ h9 => h9) rfl dX4_join_62 ?_
        refine lv_iload_n hx hb dX4_join_65 rfl (lv_at hl 3 rfl) ?_
        obtain ⟨h_10, hfn⟩ := zg_s hfn
        refine va_iald hx hb hK hP 1 0 rfl rfl h_10 dX4_join_66 ?_
        refine va_iast hx hb hK hP hD hS 1 0 rfl rfl h_8 dX4_join_67 (fun H locs hP hD hS => ?_)
        have hP : va_P (dC, dI) vwCl [zV4 h0 v0_0 v0_1 r0_2 r0_3 r0_4 r0_5 r0_6 r0_7 r0_8 r0_9, zVi r0_7 k1 14 (upd s_6.2 s_6.1.toNatClampNeg (s_6.2 p1.toNatClampNeg))] H := hP
        have hD := zDW hD hP rfl
        refine lv_iinc (v := (s_6.1 + 1)) (lv' := [(4, .int (s_6.1 + 1)), (3, .int (f1 p2.toNatClampNeg)), (0, .ref h0), (1, .int p1)]) hx hb dX4_join_68 hl (k := 0) rfl rfl (of_decide_eq_true rfl) rfl (fun ls hl => ?_)
        refine lv_goto (tgt := 35) hx hb dX4_join_71 (of_decide_eq_true rfl) ?_
        exact ih_6 ((s_6.1 + 1), (upd s_6.2 s_6.1.toNatClampNeg (s_6.2 p1.toNatClampNeg))) H locs ls hfn hP hD hS (lv_sub hl [0, 1, 2, 3] rfl)
    exact lp_6 _ (0, f1) s.heap [] ls hfn hP hD hS (lv_sub hl [0, 1, 2, 3] rfl)
  have hfn := (if_neg c_4).symm.trans hfn
  have ho := Option.some.inj hfn
  subst ho
  exact zrv hx hb hr hK hP hD hS hQ trivial hlocks dX4_join_24
theorem zn_X4_find_X4 : ∀ w ∈ wsX40, w ∈ wsX4_find := fun _ h => List.mem_cons_of_mem _ (List.mem_append_right _ h)
theorem zw_X4_find_363 : Cond.fieldLink RX4 36 "ShortEnough$Numbers" "count" "I" ∈ wsX4_find := List.mem_of_getElem? (i := 1) (by decide +kernel)
theorem zw_X4_find_364 : Cond.fieldLink RX4 9 "ShortEnough$Numbers" "name" "[I" ∈ wsX4_find := List.mem_of_getElem? (i := 2) (by decide +kernel)
set_option maxHeartbeats 4000000 in
set_option maxRecDepth 100000 in
theorem zf_X4_find (l : Launch) (dC : Nat → ClassId) (dI : Nat → Nat → Nat) (h0 : Nat) (p1 : Int32) (v0_0 : Int32) (v0_1 : Int32) (r0_2 : Nat) (r0_3 : Nat) (r0_4 : Nat) (r0_5 : Nat) (r0_6 : Nat) (r0_7 : Nat) (r0_8 : Nat) (r0_9 : Nat) (k1 : Nat) (f1 : Nat → Int32) (o : Int32) (hfn : fn_X4_find p1 v0_0 f1 = some o) (sz : Nat) : zMi l yX4_find wsX4_find ({ frames := 0, cells := 0, slots := 0, locals := 0 }) (dC, dI) vwCl [.ref h0, .int p1] [zV4 h0 v0_0 v0_1 r0_2 r0_3 r0_4 r0_5 r0_6 r0_7 r0_8 r0_9, zVi r0_2 k1 14 f1] [(k1, .int)] (fun r _ => r = o) [zV4 h0 v0_0 v0_1 r0_2 r0_3 r0_4 r0_5 r0_6 r0_7 r0_8 r0_9, zVi r0_2 k1 14 f1] [(k1, .int)] sz := by
  refine zgoi (cc := cX4_find) (maxL := 3) (ret := (some .int)) (C0 := RX4) (lv0 := [(0, .ref h0), (1, .int p1)]) zpl_X4 rfl rfl rfl (Nat.le_of_ble_eq_true rfl) ?_
  intro p e s m below meth c A ls Q hx hb hr hts hown hlocks hml hP hK hD hA hS hl hQ
  unfold fn_X4_find at hfn
  refine lv_iconst (v := 0) hx hb dX4_find_0 zci_0 ?_
  refine lv_istore_n (lv' := [(2, .int 0), (0, .ref h0), (1, .int p1)]) hx hb dX4_find_1 rfl hl (of_decide_eq_true rfl) rfl (fun ls hl => ?_)
  obtain ⟨bd_1, ebd_1, hfn⟩ := zl_g hfn
  have lp_1 : ∀ (n : Nat) (s_1 : Int32) (H : Heap) (locs : List Loc) (ls : Array Slot), zl bd_1 n s_1 = some o → va_P (dC, dI) vwCl [zV4 h0 v0_0 v0_1 r0_2 r0_3 r0_4 r0_5 r0_6 r0_7 r0_8 r0_9, zVi r0_2 k1 14 f1] H → va_D A [zV4 h0 v0_0 v0_1 r0_2 r0_3 r0_4 r0_5 r0_6 r0_7 r0_8 r0_9, zVi r0_2 k1 14 f1] → va_S A s.heap H locs → lv_has ls 3 [(2, .int s_1), (0, .ref h0), (1, .int p1)] → W p l e (headSpec wsX4_find ({ frames := 0, cells := 0, slots := 0, locals := 0 })).room s m ([.ref h0, .int p1] : List Value).toArray below meth c H locs 0 0 Q (F0 m 2 ls []) := by
    intro n
    induction n with
    | zero => exact fun _ _ _ _ hfn => (zl_0 hfn).elim
    | succ n ih_1 =>
      intro s_1 H locs ls hfn hP hD hS hl
      have hfn := zl_s ebd_1 hfn
      refine lv_iload_n hx hb dX4_find_2 rfl (lv_at hl 0 rfl) ?_
      refine lv_aload_n hx hb dX4_find_3 rfl (lv_at hl 1 rfl) ?_
      refine va_get (D := (dC, dI)) (ci := 4) (v := .int v0_0) (C := RX4) (T := TX4) (N := 10) hx hb hts zn_X4_find_X4 hown hK hP 0 rfl rfl 0 (of_decide_eq_true rfl) (hts (.fieldLink RX4 36 "ShortEnough$Numbers" "count" "I") zw_X4_find_363) (fun _ h9 => h9) rfl dX4_find_4 ?_
      refine lv_icmp_ge (tgt := 28) hx hb dX4_find_7 (of_decide_eq_true rfl) (fun c_2 => ?_) (fun c_2 => ?_)
      · have hfn := (if_pos c_2).symm.trans hfn
        refine lv_iconst (v := (-1)) hx hb dX4_find_28 zci_m1 ?_
        have ho := Option.some.inj hfn
        subst ho
        exact zri hx hb hr hK hP hD hS hQ rfl hlocks dX4_find_29
      have hfn := (if_neg c_2).symm.trans hfn
      refine lv_aload_n hx hb dX4_find_10 rfl (lv_at hl 1 rfl) ?_
      refine va_get (D := (dC, dI)) (ci := 4) (v := .ref r0_2) (C := RX4) (T := TX4) (N := 10) hx hb hts zn_X4_find_X4 hown hK hP 0 rfl rfl 2 (of_decide_eq_true rfl) (hts (.fieldLink RX4 9 "ShortEnough$Numbers" "name" "[I") zw_X4_find_364) (fun _ h9 => h9) rfl dX4_find_11 ?_
      refine lv_iload_n hx hb dX4_find_14 rfl (lv_at hl 0 rfl) ?_
      obtain ⟨h_3, hfn⟩ := zg_s hfn
      refine va_iald hx hb hK hP 1 0 rfl rfl h_3 dX4_find_15 ?_
      refine lv_iload_n hx hb dX4_find_16 rfl (lv_at hl 2 rfl) ?_
      refine lv_icmp_ne (tgt := 22) hx hb dX4_find_17 (of_decide_eq_true rfl) (fun c_4 => ?_) (fun c_4 => ?_)
      · have hfn := (if_neg c_4).symm.trans hfn
        refine lv_iinc (v := (s_1 + 1)) (lv' := [(2, .int (s_1 + 1)), (0, .ref h0), (1, .int p1)]) hx hb dX4_find_22 hl (k := 0) rfl rfl (of_decide_eq_true rfl) rfl (fun ls hl => ?_)
        refine lv_goto (tgt := 2) hx hb dX4_find_25 (of_decide_eq_true rfl) ?_
        exact ih_1 (s_1 + 1) H locs ls hfn hP hD hS (lv_sub hl [0, 1, 2] rfl)
      have hfn := (if_pos c_4).symm.trans hfn
      refine lv_iload_n hx hb dX4_find_20 rfl (lv_at hl 0 rfl) ?_
      have ho := Option.some.inj hfn
      subst ho
      exact zri hx hb hr hK hP hD hS hQ rfl hlocks dX4_find_21
  exact lp_1 _ 0 s.heap [] ls hfn hP hD hS (lv_sub hl [0, 1, 2] rfl)
theorem zn_X4_fix_X4 : ∀ w ∈ wsX40, w ∈ wsX4_fix := fun _ h => List.mem_cons_of_mem _ (List.mem_append_right _ h)
theorem zw_X4_fix_366 : Cond.fieldLink RX4 36 "ShortEnough$Numbers" "count" "I" ∈ wsX4_fix := List.mem_of_getElem? (i := 1) (by decide +kernel)
theorem zw_X4_fix_367 : Cond.fieldLink RX4 18 "ShortEnough$Numbers" "fixedAs" "[I" ∈ wsX4_fix := List.mem_of_getElem? (i := 2) (by decide +kernel)
set_option maxHeartbeats 4000000 in
set_option maxRecDepth 100000 in
theorem zf_X4_fix (l : Launch) (dC : Nat → ClassId) (dI : Nat → Nat → Nat) (h0 : Nat) (p1 : Int32) (p2 : Int32) (v0_0 : Int32) (v0_1 : Int32) (r0_2 : Nat) (r0_3 : Nat) (r0_4 : Nat) (r0_5 : Nat) (r0_6 : Nat) (r0_7 : Nat) (r0_8 : Nat) (r0_9 : Nat) (k1 : Nat) (f1 : Nat → Int32) (o : (Nat → Int32)) (hfn : fn_X4_fix p1 p2 v0_0 f1 = some o) (sz : Nat) : zMv l yX4_fix wsX4_fix ({ frames := 0, cells := 0, slots := 0, locals := 0 }) (dC, dI) vwCl [.ref h0, .int p1, .int p2] [zV4 h0 v0_0 v0_1 r0_2 r0_3 r0_4 r0_5 r0_6 r0_7 r0_8 r0_9, zVi r0_4 k1 14 f1] [(k1, .int)] (fun _ => True) [zV4 h0 v0_0 v0_1 r0_2 r0_3 r0_4 r0_5 r0_6 r0_7 r0_8 r0_9, zVi r0_4 k1 14 o] [(k1, .int)] sz := by
  refine zgov (cc := cX4_fix) (maxL := 3) (ret := none) (C0 := RX4) (lv0 := [(0, .ref h0), (1, .int p1), (2, .int p2)]) zpl_X4 rfl rfl rfl (Nat.le_of_ble_eq_true rfl) ?_
  intro p e s m below meth c A ls Q hx hb hr hts hown hlocks hml hP hK hD hA hS hl hQ
  unfold fn_X4_fix at hfn
  refine lv_iload_n hx hb dX4_fix_0 rfl (lv_at hl 1 rfl) ?_
  refine lv_if_lt (tgt := 19) hx hb dX4_fix_1 (of_decide_eq_true rfl) (fun c_1 => ?_) (fun c_1 => ?_)
  · have hfn := (if_pos c_1).symm.trans hfn
    have ho := Option.some.inj hfn
    subst ho
    exact zrv hx hb hr hK hP hD hS hQ trivial hlocks dX4_fix_19
  have hfn := (if_neg c_1).symm.trans hfn
  refine lv_iload_n hx hb dX4_fix_4 rfl (lv_at hl 1 rfl) ?_
  refine lv_aload_n hx hb dX4_fix_5 rfl (lv_at hl 0 rfl) ?_
  refine va_get (D := (dC, dI)) (ci := 4) (v := .int v0_0) (C := RX4) (T := TX4) (N := 10) hx hb hts zn_X4_fix_X4 hown hK hP 0 rfl rfl 0 (of_decide_eq_true rfl) (hts (.fieldLink RX4 36 "ShortEnough$Numbers" "count" "I") zw_X4_fix_366) (fun _ h9 => h9) rfl dX4_fix_6 ?_
  refine lv_icmp_ge (tgt := 19) hx hb dX4_fix_9 (of_decide_eq_true rfl) (fun c_2 => ?_) (fun c_2 => ?_)
  · have hfn := (if_pos c_2).symm.trans hfn
    have ho := Option.some.inj hfn
    subst ho
    exact zrv hx hb hr hK hP hD hS hQ trivial hlocks dX4_fix_19
  have hfn := (if_neg c_2).symm.trans hfn
  refine lv_aload_n hx hb dX4_fix_12 rfl (lv_at hl 0 rfl) ?_
  refine va_get (D := (dC, dI)) (ci := 4) (v := .ref r0_4) (C := RX4) (T := TX4) (N := 10) hx hb hts zn_X4_fix_X4 hown hK hP 0 rfl rfl 4 (of_decide_eq_true rfl) (hts (.fieldLink RX4 18 "ShortEnough$Numbers" "fixedAs" "[I") zw_X4_fix_367) (fun _ h9 => h9) rfl dX4_fix_13 ?_
  refine lv_iload_n hx hb dX4_fix_16 rfl (lv_at hl 1 rfl) ?_
  refine lv_iload_n hx hb dX4_fix_17 rfl (lv_at hl 2 rfl) ?_
  obtain ⟨h_3, hfn⟩ := zg_s hfn
  refine va_iast hx hb hK hP hD hS 1 0 rfl rfl h_3 dX4_fix_18 (fun H locs hP hD hS => ?_)
  have hP : va_P (dC, dI) vwCl [zV4 h0 v0_0 v0_1 r0_2 r0_3 r0_4 r0_5 r0_6 r0_7 r0_8 r0_9, zVi r0_4 k1 14 (upd f1 p1.toNatClampNeg p2)] H := hP
  have hD := zDW hD hP rfl
  have ho := Option.some.inj hfn
  subst ho
  exact zrv hx hb hr hK hP hD hS hQ trivial hlocks dX4_fix_19
theorem zn_X4_allow_X4 : ∀ w ∈ wsX40, w ∈ wsX4_allow := fun _ h => List.mem_cons_of_mem _ (List.mem_append_right _ h)
theorem zw_X4_allow_369 : Cond.fieldLink RX4 36 "ShortEnough$Numbers" "count" "I" ∈ wsX4_allow := List.mem_of_getElem? (i := 1) (by decide +kernel)
theorem zw_X4_allow_370 : Cond.fieldLink RX4 21 "ShortEnough$Numbers" "allowed" "[I" ∈ wsX4_allow := List.mem_of_getElem? (i := 2) (by decide +kernel)
set_option maxHeartbeats 4000000 in
set_option maxRecDepth 100000 in
theorem zf_X4_allow (l : Launch) (dC : Nat → ClassId) (dI : Nat → Nat → Nat) (h0 : Nat) (p1 : Int32) (p2 : Int32) (v0_0 : Int32) (v0_1 : Int32) (r0_2 : Nat) (r0_3 : Nat) (r0_4 : Nat) (r0_5 : Nat) (r0_6 : Nat) (r0_7 : Nat) (r0_8 : Nat) (r0_9 : Nat) (k1 : Nat) (f1 : Nat → Int32) (o : (Nat → Int32)) (hfn : fn_X4_allow p1 p2 v0_0 f1 = some o) (sz : Nat) : zMv l yX4_allow wsX4_allow ({ frames := 0, cells := 0, slots := 0, locals := 0 }) (dC, dI) vwCl [.ref h0, .int p1, .int p2] [zV4 h0 v0_0 v0_1 r0_2 r0_3 r0_4 r0_5 r0_6 r0_7 r0_8 r0_9, zVi r0_5 k1 14 f1] [(k1, .int)] (fun _ => True) [zV4 h0 v0_0 v0_1 r0_2 r0_3 r0_4 r0_5 r0_6 r0_7 r0_8 r0_9, zVi r0_5 k1 14 o] [(k1, .int)] sz := by
  refine zgov (cc := cX4_allow) (maxL := 3) (ret := none) (C0 := RX4) (lv0 := [(0, .ref h0), (1, .int p1), (2, .int p2)]) zpl_X4 rfl rfl rfl (Nat.le_of_ble_eq_true rfl) ?_
  intro p e s m below meth c A ls Q hx hb hr hts hown hlocks hml hP hK hD hA hS hl hQ
  unfold fn_X4_allow at hfn
  refine lv_iload_n hx hb dX4_allow_0 rfl (lv_at hl 1 rfl) ?_
  refine lv_if_lt (tgt := 19) hx hb dX4_allow_1 (of_decide_eq_true rfl) (fun c_1 => ?_) (fun c_1 => ?_)
  · have hfn := (if_pos c_1).symm.trans hfn
    have ho := Option.some.inj hfn
    subst ho
    exact zrv hx hb hr hK hP hD hS hQ trivial hlocks dX4_allow_19
  have hfn := (if_neg c_1).symm.trans hfn
  refine lv_iload_n hx hb dX4_allow_4 rfl (lv_at hl 1 rfl) ?_
  refine lv_aload_n hx hb dX4_allow_5 rfl (lv_at hl 0 rfl) ?_
  refine va_get (D := (dC, dI)) (ci := 4) (v := .int v0_0) (C := RX4) (T := TX4) (N := 10) hx hb hts zn_X4_allow_X4 hown hK hP 0 rfl rfl 0 (of_decide_eq_true rfl) (hts (.fieldLink RX4 36 "ShortEnough$Numbers" "count" "I") zw_X4_allow_369) (fun _ h9 => h9) rfl dX4_allow_6 ?_
  refine lv_icmp_ge (tgt := 19) hx hb dX4_allow_9 (of_decide_eq_true rfl) (fun c_2 => ?_) (fun c_2 => ?_)
  · have hfn := (if_pos c_2).symm.trans hfn
    have ho := Option.some.inj hfn
    subst ho
    exact zrv hx hb hr hK hP hD hS hQ trivial hlocks dX4_allow_19
  have hfn := (if_neg c_2).symm.trans hfn
  refine lv_aload_n hx hb dX4_allow_12 rfl (lv_at hl 0 rfl) ?_
  refine va_get (D := (dC, dI)) (ci := 4) (v := .ref r0_5) (C := RX4) (T := TX4) (N := 10) hx hb hts zn_X4_allow_X4 hown hK hP 0 rfl rfl 5 (of_decide_eq_true rfl) (hts (.fieldLink RX4 21 "ShortEnough$Numbers" "allowed" "[I") zw_X4_allow_370) (fun _ h9 => h9) rfl dX4_allow_13 ?_
  refine lv_iload_n hx hb dX4_allow_16 rfl (lv_at hl 1 rfl) ?_
  refine lv_iload_n hx hb dX4_allow_17 rfl (lv_at hl 2 rfl) ?_
  obtain ⟨h_3, hfn⟩ := zg_s hfn
  refine va_iast hx hb hK hP hD hS 1 0 rfl rfl h_3 dX4_allow_18 (fun H locs hP hD hS => ?_)
  have hP : va_P (dC, dI) vwCl [zV4 h0 v0_0 v0_1 r0_2 r0_3 r0_4 r0_5 r0_6 r0_7 r0_8 r0_9, zVi r0_5 k1 14 (upd f1 p1.toNatClampNeg p2)] H := hP
  have hD := zDW hD hP rfl
  have ho := Option.some.inj hfn
  subst ho
  exact zrv hx hb hr hK hP hD hS hQ trivial hlocks dX4_allow_19

set_option maxHeartbeats 4000000 in
set_option maxRecDepth 100000 in
theorem zf_X4_isAmong (l : Launch) (dC : Nat → ClassId) (dI : Nat → Nat → Nat) (p0 : Int32) (p1 : Int32) (p2 : Int32) (o : Int32) (hfn : fn_X4_isAmong p0 p1 p2 = some o) (sz : Nat) : zMi l yX4_isAmong wsX4_isAmong ({ frames := 0, cells := 0, slots := 0, locals := 0 }) (dC, dI) vwCl [.int p0, .int p1, .int p2] [] [] (fun r _ => r = o ∧ narrow .boolean (.int o) = .int o) [] [] sz := by
  refine zgoi (cc := cX4_isAmong) (maxL := 3) (ret := (some .boolean)) (C0 := RX4) (lv0 := [(0, .int p0), (1, .int p1), (2, .int p2)]) zpl_X4 rfl rfl rfl (Nat.le_of_ble_eq_true rfl) ?_
  intro p e s m below meth c A ls Q hx hb hr hts hown hlocks hml hP hK hD hA hS hl hQ
  unfold fn_X4_isAmong at hfn
  refine lv_iload_n hx hb dX4_isAmong_0 rfl (lv_at hl 2 rfl) ?_
  refine lv_iload_n hx hb dX4_isAmong_1 rfl (lv_at hl 0 rfl) ?_
  refine lv_icmp_eq (tgt := 18) hx hb dX4_isAmong_2 (of_decide_eq_true rfl) (fun c_1 => ?_) (fun c_1 => ?_)
  · have hfn := (if_pos c_1).symm.trans hfn
    refine lv_iconst (v := 1) hx hb dX4_isAmong_18 zci_1 ?_
    refine lv_goto (tgt := 23) hx hb dX4_isAmong_19 (of_decide_eq_true rfl) ?_
    have ho := Option.some.inj hfn
    subst ho
    exact zrz hx hb hr rfl hK hP hD hS hQ ⟨rfl, zB1⟩ hlocks dX4_isAmong_23
  have hfn := (if_neg c_1).symm.trans hfn
  refine lv_iload_n hx hb dX4_isAmong_5 rfl (lv_at hl 2 rfl) ?_
  refine lv_if_lt (tgt := 22) hx hb dX4_isAmong_6 (of_decide_eq_true rfl) (fun c_2 => ?_) (fun c_2 => ?_)
  · have hfn := (if_pos c_2).symm.trans hfn
    refine lv_iconst (v := 0) hx hb dX4_isAmong_22 zci_0 ?_
    have ho := Option.some.inj hfn
    subst ho
    exact zrz hx hb hr rfl hK hP hD hS hQ ⟨rfl, zB0⟩ hlocks dX4_isAmong_23
  have hfn := (if_neg c_2).symm.trans hfn
  refine lv_iload_n hx hb dX4_isAmong_9 rfl (lv_at hl 1 rfl) ?_
  refine lv_iload_n hx hb dX4_isAmong_10 rfl (lv_at hl 2 rfl) ?_
  refine lv_ishr hx hb dX4_isAmong_11 ?_
  refine lv_iconst (v := 1) hx hb dX4_isAmong_12 zci_1 ?_
  refine lv_iand hx hb dX4_isAmong_13 ?_
  refine lv_iconst (v := 1) hx hb dX4_isAmong_14 zci_1 ?_
  refine lv_icmp_ne (tgt := 22) hx hb dX4_isAmong_15 (of_decide_eq_true rfl) (fun c_3 => ?_) (fun c_3 => ?_)
  · have hfn := (if_neg c_3).symm.trans hfn
    refine lv_iconst (v := 0) hx hb dX4_isAmong_22 zci_0 ?_
    have ho := Option.some.inj hfn
    subst ho
    exact zrz hx hb hr rfl hK hP hD hS hQ ⟨rfl, zB0⟩ hlocks dX4_isAmong_23
  have hfn := (if_pos c_3).symm.trans hfn
  refine lv_iconst (v := 1) hx hb dX4_isAmong_18 zci_1 ?_
  refine lv_goto (tgt := 23) hx hb dX4_isAmong_19 (of_decide_eq_true rfl) ?_
  have ho := Option.some.inj hfn
  subst ho
  exact zrz hx hb hr rfl hK hP hD hS hQ ⟨rfl, zB1⟩ hlocks dX4_isAmong_23
theorem zn_X4_madeFrom_X4 : ∀ w ∈ wsX40, w ∈ wsX4_madeFrom := fun _ h => List.mem_cons_of_mem _ (List.mem_append_right _ h)
theorem zw_X4_madeFrom_372 : Cond.fieldLink RX4 36 "ShortEnough$Numbers" "count" "I" ∈ wsX4_madeFrom := List.mem_of_getElem? (i := 1) (by decide +kernel)
set_option maxHeartbeats 4000000 in
set_option maxRecDepth 100000 in
theorem zf_X4_madeFrom (l : Launch) (dC : Nat → ClassId) (dI : Nat → Nat → Nat) (h0 : Nat) (p1 : Int32) (v0_0 : Int32) (v0_1 : Int32) (r0_2 : Nat) (r0_3 : Nat) (r0_4 : Nat) (r0_5 : Nat) (r0_6 : Nat) (r0_7 : Nat) (r0_8 : Nat) (r0_9 : Nat) (k1 : Nat) (f1 : Nat → Int32) (o : Int32) (hfn : fn_X4_madeFrom p1 v0_0 f1 = some o) (sz : Nat) : zMi l yX4_madeFrom wsX4_madeFrom ({ frames := 1, cells := 0, slots := 0, locals := 22 }) (dC, dI) vwCl [.ref h0, .int p1] [zV4 h0 v0_0 v0_1 r0_2 r0_3 r0_4 r0_5 r0_6 r0_7 r0_8 r0_9, zVi r0_8 k1 28 f1] [(k1, .int)] (fun r _ => r = o) [zV4 h0 v0_0 v0_1 r0_2 r0_3 r0_4 r0_5 r0_6 r0_7 r0_8 r0_9, zVi r0_8 k1 28 f1] [(k1, .int)] sz := by
  refine zgoi (cc := cX4_madeFrom) (maxL := 4) (ret := (some .int)) (C0 := RX4) (lv0 := [(0, .ref h0), (1, .int p1)]) zpl_X4 rfl rfl rfl (Nat.le_of_ble_eq_true rfl) ?_
  intro p e s m below meth c A ls Q hx hb hr hts hown hlocks hml hP hK hD hA hS hl hQ
  unfold fn_X4_madeFrom at hfn
  refine lv_iconst (v := 0) hx hb dX4_madeFrom_0 zci_0 ?_
  refine lv_istore_n (lv' := [(2, .int 0), (0, .ref h0), (1, .int p1)]) hx hb dX4_madeFrom_1 rfl hl (of_decide_eq_true rfl) rfl (fun ls hl => ?_)
  refine lv_iload_n hx hb dX4_madeFrom_2 rfl (lv_at hl 2 rfl) ?_
  refine lv_iconst (v := 1) hx hb dX4_madeFrom_3 zci_1 ?_
  refine lv_iadd hx hb dX4_madeFrom_4 ?_
  refine lv_istore_n (lv' := [(3, .int (p1 + 1)), (2, .int 0), (0, .ref h0), (1, .int p1)]) hx hb dX4_madeFrom_5 rfl hl (of_decide_eq_true rfl) rfl (fun ls hl => ?_)
  obtain ⟨bd_1, ebd_1, hfn⟩ := zl_g hfn
  have lp_1 : ∀ (n : Nat) (s_1 : Int32 × Int32) (H : Heap) (locs : List Loc) (ls : Array Slot), zl bd_1 n s_1 = some o → va_P (dC, dI) vwCl [zV4 h0 v0_0 v0_1 r0_2 r0_3 r0_4 r0_5 r0_6 r0_7 r0_8 r0_9, zVi r0_8 k1 28 f1] H → va_D A [zV4 h0 v0_0 v0_1 r0_2 r0_3 r0_4 r0_5 r0_6 r0_7 r0_8 r0_9, zVi r0_8 k1 28 f1] → va_S A s.heap H locs → lv_has ls 4 [(3, .int s_1.2), (2, .int s_1.1), (0, .ref h0), (1, .int p1)] → W p l e (headSpec wsX4_madeFrom ({ frames := 1, cells := 0, slots := 0, locals := 22 })).room s m ([.ref h0, .int p1] : List Value).toArray below meth c H locs 0 0 Q (F0 m 6 ls []) := by
    intro n
    induction n with
    | zero => exact fun _ _ _ _ hfn => (zl_0 hfn).elim
    | succ n ih_1 =>
      intro s_1 H locs ls hfn hP hD hS hl
      have hfn := zl_s ebd_1 hfn
      refine lv_iload_n hx hb dX4_madeFrom_6 rfl (lv_at hl 0 rfl) ?_
      refine lv_aload_n hx hb dX4_madeFrom_7 rfl (lv_at hl 2 rfl) ?_
      refine va_get (D := (dC, dI)) (ci := 4) (v := .int v0_0) (C := RX4) (T := TX4) (N := 10) hx hb hts zn_X4_madeFrom_X4 hown hK hP 0 rfl rfl 0 (of_decide_eq_true rfl) (hts (.fieldLink RX4 36 "ShortEnough$Numbers" "count" "I") zw_X4_madeFrom_372) (fun _ h9 => h9) rfl dX4_madeFrom_8 ?_
      refine lv_icmp_ge (tgt := 54) hx hb dX4_madeFrom_11 (of_decide_eq_true rfl) (fun c_2 => ?_) (fun c_2 => ?_)
      · have hfn := (if_pos c_2).symm.trans hfn
        refine lv_iload_n hx hb dX4_madeFrom_54 rfl (lv_at hl 1 rfl) ?_
        have ho := Option.some.inj hfn
        subst ho
        exact zri hx hb hr hK hP hD hS hQ rfl hlocks dX4_madeFrom_55
      have hfn := (if_neg c_2).symm.trans hfn
      refine lv_iload_n hx hb dX4_madeFrom_14 rfl (lv_at hl 3 rfl) ?_
      refine lv_iload_n hx hb dX4_madeFrom_15 rfl (lv_at hl 1 rfl) ?_
      refine lv_aload_n hx hb dX4_madeFrom_16 rfl (lv_at hl 2 rfl) ?_
      refine lv_iload_n hx hb dX4_madeFrom_17 rfl (lv_at hl 0 rfl) ?_
      refine lv_iconst (v := 0) hx hb dX4_madeFrom_18 zci_0 ?_
      obtain ⟨o_3, hqo_3, hfn⟩ := zb_s hfn
      refine zcVi (ci := 4) (rest := [.int s_1.1, .int p1]) (pc' := 22) (ws' := [zV4 h0 v0_0 v0_1 r0_2 r0_3 r0_4 r0_5 r0_6 r0_7 r0_8 r0_9, zVi r0_8 k1 28 f1]) hP hK hD hS hA ⟨hx, hb, hml, hown, hts⟩ (zf_X4_madeOf l dC dI h0 s_1.2 0 v0_0 v0_1 r0_2 r0_3 r0_4 r0_5 r0_6 r0_7 r0_8 r0_9 k1 f1 o_3 hqo_3 H.size) (cwV 2 hts gX4_madeFrom_X4_madeOf rfl rfl rfl zhd_X4_madeOf ⟨Nat.le_of_ble_eq_true rfl, Nat.le_of_ble_eq_true rfl⟩) [0, 1] rfl (of_decide_eq_true rfl) [0] rfl rfl rfl rfl hl.1 rfl (Nat.le_of_ble_eq_true rfl) dX4_madeFrom_19 ⟨Nat.le_of_ble_eq_true rfl, Nat.le_of_ble_eq_true rfl⟩ [some 0, some 1] (of_decide_eq_true rfl) (of_decide_eq_true rfl) rfl rfl rfl (fun H locs hP hD hS => ?_)
      obtain ⟨o_7, hqo_7, hfn⟩ := zb_s hfn
      refine zcSb (rest := []) (pc' := 25) (ws' := [zV4 h0 v0_0 v0_1 r0_2 r0_3 r0_4 r0_5 r0_6 r0_7 r0_8 r0_9, zVi r0_8 k1 28 f1]) hP hK hD hS hA ⟨hx, hb, hml, hown, hts⟩ (zf_X4_isAmong l dC dI p1 s_1.1 o_3 o_7 hqo_7 H.size) (va_cwS 3 hts gX4_madeFrom_X4_isAmong rfl rfl rfl zhd_X4_isAmong.2 ⟨Nat.le_of_ble_eq_true rfl, Nat.le_of_ble_eq_true rfl⟩) [] rfl (of_decide_eq_true rfl) [] rfl rfl hl.1 rfl (Nat.le_of_ble_eq_true rfl) dX4_madeFrom_22 ⟨Nat.le_of_ble_eq_true rfl, Nat.le_of_ble_eq_true rfl⟩ [] (of_decide_eq_true rfl) (of_decide_eq_true rfl) rfl rfl rfl (fun H locs hw_10n hP hD hS => ?_)
      refine lv_if_ne (tgt := 42) hx hb dX4_madeFrom_25 (of_decide_eq_true rfl) (fun c_11 => ?_) (fun c_11 => ?_)
      · have hfn := (if_neg c_11).symm.trans hfn
        refine lv_iload_n hx hb dX4_madeFrom_42 rfl (lv_at hl 1 rfl) ?_
        refine lv_iconst (v := 1) hx hb dX4_madeFrom_43 zci_1 ?_
        refine lv_iload_n hx hb dX4_madeFrom_44 rfl (lv_at hl 0 rfl) ?_
        refine lv_ishl hx hb dX4_madeFrom_45 ?_
        refine lv_ior hx hb dX4_madeFrom_46 ?_
        refine lv_istore_n (lv' := [(2, .int (s_1.1 ||| (1 <<< (s_1.2 &&& 31)))), (3, .int s_1.2), (0, .ref h0), (1, .int p1)]) hx hb dX4_madeFrom_47 rfl hl (of_decide_eq_true rfl) rfl (fun ls hl => ?_)
        refine lv_iinc (v := (s_1.2 + 1)) (lv' := [(3, .int (s_1.2 + 1)), (2, .int (s_1.1 ||| (1 <<< (s_1.2 &&& 31)))), (0, .ref h0), (1, .int p1)]) hx hb dX4_madeFrom_48 hl (k := 1) rfl rfl (of_decide_eq_true rfl) rfl (fun ls hl => ?_)
        refine lv_goto (tgt := 6) hx hb dX4_madeFrom_51 (of_decide_eq_true rfl) ?_
        exact ih_1 ((s_1.1 ||| (1 <<< (s_1.2 &&& 31))), (s_1.2 + 1)) H locs ls hfn hP hD hS (lv_sub hl [0, 1, 2, 3] rfl)
      have hfn := (if_pos c_11).symm.trans hfn
      refine lv_iload_n hx hb dX4_madeFrom_28 rfl (lv_at hl 3 rfl) ?_
      refine lv_iload_n hx hb dX4_madeFrom_29 rfl (lv_at hl 1 rfl) ?_
      refine lv_aload_n hx hb dX4_madeFrom_30 rfl (lv_at hl 2 rfl) ?_
      refine lv_iload_n hx hb dX4_madeFrom_31 rfl (lv_at hl 0 rfl) ?_
      refine lv_iconst (v := 1) hx hb dX4_madeFrom_32 zci_1 ?_
      obtain ⟨o_12, hqo_12, hfn⟩ := zb_s hfn
      refine zcVi (ci := 4) (rest := [.int s_1.1, .int p1]) (pc' := 36) (ws' := [zV4 h0 v0_0 v0_1 r0_2 r0_3 r0_4 r0_5 r0_6 r0_7 r0_8 r0_9, zVi r0_8 k1 28 f1]) hP hK hD hS hA ⟨hx, hb, hml, hown, hts⟩ (zf_X4_madeOf l dC dI h0 s_1.2 1 v0_0 v0_1 r0_2 r0_3 r0_4 r0_5 r0_6 r0_7 r0_8 r0_9 k1 f1 o_12 hqo_12 H.size) (cwV 2 hts gX4_madeFrom_X4_madeOf rfl rfl rfl zhd_X4_madeOf ⟨Nat.le_of_ble_eq_true rfl, Nat.le_of_ble_eq_true rfl⟩) [0, 1] rfl (of_decide_eq_true rfl) [0] rfl rfl rfl rfl hl.1 rfl (Nat.le_of_ble_eq_true rfl) dX4_madeFrom_33 ⟨Nat.le_of_ble_eq_true rfl, Nat.le_of_ble_eq_true rfl⟩ [some 0, some 1] (of_decide_eq_true rfl) (of_decide_eq_true rfl) rfl rfl rfl (fun H locs hP hD hS => ?_)
      obtain ⟨o_16, hqo_16, hfn⟩ := zb_s hfn
      refine zcSb (rest := []) (pc' := 39) (ws' := [zV4 h0 v0_0 v0_1 r0_2 r0_3 r0_4 r0_5 r0_6 r0_7 r0_8 r0_9, zVi r0_8 k1 28 f1]) hP hK hD hS hA ⟨hx, hb, hml, hown, hts⟩ (zf_X4_isAmong l dC dI p1 s_1.1 o_12 o_16 hqo_16 H.size) (va_cwS 3 hts gX4_madeFrom_X4_isAmong rfl rfl rfl zhd_X4_isAmong.2 ⟨Nat.le_of_ble_eq_true rfl, Nat.le_of_ble_eq_true rfl⟩) [] rfl (of_decide_eq_true rfl) [] rfl rfl hl.1 rfl (Nat.le_of_ble_eq_true rfl) dX4_madeFrom_36 ⟨Nat.le_of_ble_eq_true rfl, Nat.le_of_ble_eq_true rfl⟩ [] (of_decide_eq_true rfl) (of_decide_eq_true rfl) rfl rfl rfl (fun H locs hw_19n hP hD hS => ?_)
      refine lv_if_eq (tgt := 48) hx hb dX4_madeFrom_39 (of_decide_eq_true rfl) (fun c_20 => ?_) (fun c_20 => ?_)
      · have hfn := (if_pos c_20).symm.trans hfn
        refine lv_iinc (v := (s_1.2 + 1)) (lv' := [(3, .int (s_1.2 + 1)), (2, .int s_1.1), (0, .ref h0), (1, .int p1)]) hx hb dX4_madeFrom_48 hl (k := 0) rfl rfl (of_decide_eq_true rfl) rfl (fun ls hl => ?_)
        refine lv_goto (tgt := 6) hx hb dX4_madeFrom_51 (of_decide_eq_true rfl) ?_
        exact ih_1 (s_1.1, (s_1.2 + 1)) H locs ls hfn hP hD hS (lv_sub hl [0, 1, 2, 3] rfl)
      have hfn := (if_neg c_20).symm.trans hfn
      refine lv_iload_n hx hb dX4_madeFrom_42 rfl (lv_at hl 1 rfl) ?_
      refine lv_iconst (v := 1) hx hb dX4_madeFrom_43 zci_1 ?_
      refine lv_iload_n hx hb dX4_madeFrom_44 rfl (lv_at hl 0 rfl) ?_
      refine lv_ishl hx hb dX4_madeFrom_45 ?_
      refine lv_ior hx hb dX4_madeFrom_46 ?_
      refine lv_istore_n (lv' := [(2, .int (s_1.1 ||| (1 <<< (s_1.2 &&& 31)))), (3, .int s_1.2), (0, .ref h0), (1, .int p1)]) hx hb dX4_madeFrom_47 rfl hl (of_decide_eq_true rfl) rfl (fun ls hl => ?_)
      refine lv_iinc (v := (s_1.2 + 1)) (lv' := [(3, .int (s_1.2 + 1)), (2, .int (s_1.1 ||| (1 <<< (s_1.2 &&& 31)))), (0, .ref h0), (1, .int p1)]) hx hb dX4_madeFrom_48 hl (k := 1) rfl rfl (of_decide_eq_true rfl) rfl (fun ls hl => ?_)
      refine lv_goto (tgt := 6) hx hb dX4_madeFrom_51 (of_decide_eq_true rfl) ?_
      exact ih_1 ((s_1.1 ||| (1 <<< (s_1.2 &&& 31))), (s_1.2 + 1)) H locs ls hfn hP hD hS (lv_sub hl [0, 1, 2, 3] rfl)
  exact lp_1 _ (0, (p1 + 1)) s.heap [] ls hfn hP hD hS (lv_sub hl [0, 1, 2, 3] rfl)
theorem zn_X9_clear_X9 : ∀ w ∈ wsX90, w ∈ wsX9_clear := fun _ h => List.mem_cons_of_mem _ (List.mem_append_left _ (List.mem_append_right _ h))
theorem zw_X9_clear_377 : Cond.fieldLink RX9 45 "ShortEnough$Task" "formats" "I" ∈ wsX9_clear := List.mem_of_getElem? (i := 1) (by decide +kernel)
theorem zw_X9_clear_378 : Cond.fieldLink RX9 49 "ShortEnough$Task" "castPrice" "I" ∈ wsX9_clear := List.mem_of_getElem? (i := 2) (by decide +kernel)
theorem zw_X9_clear_379 : Cond.fieldLink RX9 27 "ShortEnough$Task" "numbers" "LShortEnough$Numbers;" ∈ wsX9_clear := List.mem_of_getElem? (i := 3) (by decide +kernel)
theorem zn_X9_clear_X4 : ∀ w ∈ wsX40, w ∈ wsX9_clear := fun _ h => List.mem_cons_of_mem _ (List.mem_append_right _ h)
theorem zw_X9_clear_381 : Cond.fieldLink RX9 52 "ShortEnough$Numbers" "count" "I" ∈ wsX9_clear := List.mem_of_getElem? (i := 4) (by decide +kernel)
theorem zw_X9_clear_382 : Cond.fieldLink RX9 55 "ShortEnough$Numbers" "inputs" "I" ∈ wsX9_clear := List.mem_of_getElem? (i := 5) (by decide +kernel)
set_option maxHeartbeats 4000000 in
set_option maxRecDepth 100000 in
theorem zf_X9_clear (l : Launch) (dC : Nat → ClassId) (dI : Nat → Nat → Nat) (h0 : Nat) (v0_0 : Int32) (r0_1 : Nat) (r0_2 : Nat) (r0_3 : Nat) (r0_4 : Nat) (v0_5 : Int32) (r0_6 : Nat) (r0_7 : Nat) (r0_8 : Nat) (v1_0 : Int32) (v1_1 : Int32) (r1_2 : Nat) (r1_3 : Nat) (r1_4 : Nat) (r1_5 : Nat) (r1_6 : Nat) (r1_7 : Nat) (r1_8 : Nat) (r1_9 : Nat) (o : Int32 × Int32 × Int32 × Int32) (hfn : fn_X9_clear = some o) (sz : Nat) : zMv l yX9_clear wsX9_clear ({ frames := 0, cells := 0, slots := 0, locals := 0 }) (dC, dI) vwCl [.ref h0] [zV9 h0 v0_0 r0_1 r0_2 r0_3 r0_4 v0_5 r0_6 r0_7 r0_8, zV4 r0_6 v1_0 v1_1 r1_2 r1_3 r1_4 r1_5 r1_6 r1_7 r1_8 r1_9] [] (fun _ => True) [zV9 h0 o.1 r0_1 r0_2 r0_3 r0_4 o.2.1 r0_6 r0_7 r0_8, zV4 r0_6 o.2.2.1 o.2.2.2 r1_2 r1_3 r1_4 r1_5 r1_6 r1_7 r1_8 r1_9] [] sz := by
  refine zgov (cc := cX9_clear) (maxL := 1) (ret := none) (C0 := RX9) (lv0 := [(0, .ref h0)]) zpl_X9 rfl rfl rfl (Nat.le_of_ble_eq_true rfl) ?_
  intro p e s m below meth c A ls Q hx hb hr hts hown hlocks hml hP hK hD hA hS hl hQ
  unfold fn_X9_clear at hfn
  refine lv_aload_n hx hb dX9_clear_0 rfl (lv_at hl 0 rfl) ?_
  refine lv_iconst (v := 0) hx hb dX9_clear_1 zci_0 ?_
  refine va_put (D := (dC, dI)) (ci := 9) (v := .int 0) (ty := .int) (C := RX9) (T := TX9) (N := 9) hx hb hts zn_X9_clear_X9 tyX9 tyX9_ok nmX9 hown hK hP hD hS 0 rfl rfl 0 (of_decide_eq_true rfl) (hts (.fieldLink RX9 45 "ShortEnough$Task" "formats" "I") zw_X9_clear_377) (fun _ h9 => h9) rfl (tyX9_ok 0 (of_decide_eq_true rfl)) rfl rfl (Nat.le_of_ble_eq_true rfl) dX9_clear_2 (fun H locs hP hD hS => ?_)
  have hP : va_P (dC, dI) vwCl [zV9 h0 0 r0_1 r0_2 r0_3 r0_4 v0_5 r0_6 r0_7 r0_8, zV4 r0_6 v1_0 v1_1 r1_2 r1_3 r1_4 r1_5 r1_6 r1_7 r1_8 r1_9] H := hP
  have hD := zDW hD hP rfl
  refine lv_aload_n hx hb dX9_clear_5 rfl (lv_at hl 0 rfl) ?_
  refine lv_iconst (v := 1) hx hb dX9_clear_6 zci_1 ?_
  refine va_put (D := (dC, dI)) (ci := 9) (v := .int 1) (ty := .int) (C := RX9) (T := TX9) (N := 9) hx hb hts zn_X9_clear_X9 tyX9 tyX9_ok nmX9 hown hK hP hD hS 0 rfl rfl 5 (of_decide_eq_true rfl) (hts (.fieldLink RX9 49 "ShortEnough$Task" "castPrice" "I") zw_X9_clear_378) (fun _ h9 => h9) rfl (tyX9_ok 5 (of_decide_eq_true rfl)) rfl rfl (Nat.le_of_ble_eq_true rfl) dX9_clear_7 (fun H locs hP hD hS => ?_)
  have hP : va_P (dC, dI) vwCl [zV9 h0 0 r0_1 r0_2 r0_3 r0_4 1 r0_6 r0_7 r0_8, zV4 r0_6 v1_0 v1_1 r1_2 r1_3 r1_4 r1_5 r1_6 r1_7 r1_8 r1_9] H := hP
  have hD := zDW hD hP rfl
  refine lv_aload_n hx hb dX9_clear_10 rfl (lv_at hl 0 rfl) ?_
  refine va_get (D := (dC, dI)) (ci := 9) (v := .ref r0_6) (C := RX9) (T := TX9) (N := 9) hx hb hts zn_X9_clear_X9 hown hK hP 0 rfl rfl 6 (of_decide_eq_true rfl) (hts (.fieldLink RX9 27 "ShortEnough$Task" "numbers" "LShortEnough$Numbers;") zw_X9_clear_379) (fun _ h9 => h9) rfl dX9_clear_11 ?_
  refine lv_iconst (v := 0) hx hb dX9_clear_14 zci_0 ?_
  refine va_put (D := (dC, dI)) (ci := 4) (v := .int 0) (ty := .int) (C := RX4) (T := TX4) (N := 10) hx hb hts zn_X9_clear_X4 tyX4 tyX4_ok nmX4 hown hK hP hD hS 1 rfl rfl 0 (of_decide_eq_true rfl) (hts (.fieldLink RX9 52 "ShortEnough$Numbers" "count" "I") zw_X9_clear_381) (fun _ h9 => h9) rfl (tyX4_ok 0 (of_decide_eq_true rfl)) rfl rfl (Nat.le_of_ble_eq_true rfl) dX9_clear_15 (fun H locs hP hD hS => ?_)
  have hP : va_P (dC, dI) vwCl [zV9 h0 0 r0_1 r0_2 r0_3 r0_4 1 r0_6 r0_7 r0_8, zV4 r0_6 0 v1_1 r1_2 r1_3 r1_4 r1_5 r1_6 r1_7 r1_8 r1_9] H := hP
  have hD := zDW hD hP rfl
  refine lv_aload_n hx hb dX9_clear_18 rfl (lv_at hl 0 rfl) ?_
  refine va_get (D := (dC, dI)) (ci := 9) (v := .ref r0_6) (C := RX9) (T := TX9) (N := 9) hx hb hts zn_X9_clear_X9 hown hK hP 0 rfl rfl 6 (of_decide_eq_true rfl) (hts (.fieldLink RX9 27 "ShortEnough$Task" "numbers" "LShortEnough$Numbers;") zw_X9_clear_379) (fun _ h9 => h9) rfl dX9_clear_19 ?_
  refine lv_iconst (v := 0) hx hb dX9_clear_22 zci_0 ?_
  refine va_put (D := (dC, dI)) (ci := 4) (v := .int 0) (ty := .int) (C := RX4) (T := TX4) (N := 10) hx hb hts zn_X9_clear_X4 tyX4 tyX4_ok nmX4 hown hK hP hD hS 1 rfl rfl 1 (of_decide_eq_true rfl) (hts (.fieldLink RX9 55 "ShortEnough$Numbers" "inputs" "I") zw_X9_clear_382) (fun _ h9 => h9) rfl (tyX4_ok 1 (of_decide_eq_true rfl)) rfl rfl (Nat.le_of_ble_eq_true rfl) dX9_clear_23 (fun H locs hP hD hS => ?_)
  have hP : va_P (dC, dI) vwCl [zV9 h0 0 r0_1 r0_2 r0_3 r0_4 1 r0_6 r0_7 r0_8, zV4 r0_6 0 0 r1_2 r1_3 r1_4 r1_5 r1_6 r1_7 r1_8 r1_9] H := hP
  have hD := zDW hD hP rfl
  have ho := Option.some.inj hfn
  subst ho
  exact zrv hx hb hr hK hP hD hS hQ trivial hlocks dX9_clear_26

set_option maxHeartbeats 4000000 in
set_option maxRecDepth 100000 in
theorem zf_X10_kindOf (l : Launch) (dC : Nat → ClassId) (dI : Nat → Nat → Nat) (p0 : Int32) (o : Int32) (hfn : fn_X10_kindOf p0 = some o) (sz : Nat) : zMi l yX10_kindOf wsX10_kindOf ({ frames := 0, cells := 0, slots := 0, locals := 0 }) (dC, dI) vwCl [.int p0] [] [] (fun r _ => r = o) [] [] sz := by
  refine zgoi (cc := cX10_kindOf) (maxL := 1) (ret := (some .int)) (C0 := RX10) (lv0 := [(0, .int p0)]) zpl_X10 rfl rfl rfl (Nat.le_of_ble_eq_true rfl) ?_
  intro p e s m below meth c A ls Q hx hb hr hts hown hlocks hml hP hK hD hA hS hl hQ
  unfold fn_X10_kindOf at hfn
  refine lv_iload_n hx hb dX10_kindOf_0 rfl (lv_at hl 0 rfl) ?_
  refine lv_bipush (v := 97) hx hb dX10_kindOf_1 zcb_97 ?_
  obtain ⟨j_1, ej_1, hfn⟩ := zj_g hfn
  have jp_1 : ∀ (s_1 : Unit) (H : Heap) (locs : List Loc) (ls : Array Slot), j_1 s_1 = some o → va_P (dC, dI) vwCl [] H → va_D A [] → va_S A s.heap H locs → lv_has ls 1 [(0, .int p0)] → W p l e (headSpec wsX10_kindOf ({ frames := 0, cells := 0, slots := 0, locals := 0 })).room s m ([.int p0] : List Value).toArray below meth c H locs 0 0 Q (F0 m 14 ls []) := by
    intro s_1 H locs ls hfn hP hD hS hl
    have hfn := zj_s ej_1 hfn
    refine lv_iload_n hx hb dX10_kindOf_14 rfl (lv_at hl 0 rfl) ?_
    refine lv_bipush (v := 48) hx hb dX10_kindOf_15 zcb_48 ?_
    obtain ⟨j_2, ej_2, hfn⟩ := zj_g hfn
    have jp_2 : ∀ (s_2 : Unit) (H : Heap) (locs : List Loc) (ls : Array Slot), j_2 s_2 = some o → va_P (dC, dI) vwCl [] H → va_D A [] → va_S A s.heap H locs → lv_has ls 1 [(0, .int p0)] → W p l e (headSpec wsX10_kindOf ({ frames := 0, cells := 0, slots := 0, locals := 0 })).room s m ([.int p0] : List Value).toArray below meth c H locs 0 0 Q (F0 m 28 ls []) := by
      intro s_2 H locs ls hfn hP hD hS hl
      have hfn := zj_s ej_2 hfn
      refine lv_iload_n hx hb dX10_kindOf_28 rfl (lv_at hl 0 rfl) ?_
      refine lv_bipush (v := 10) hx hb dX10_kindOf_29 zcb_10 ?_
      refine lv_icmp_eq (tgt := 40) hx hb dX10_kindOf_31 (of_decide_eq_true rfl) (fun c_3 => ?_) (fun c_3 => ?_)
      · have hfn := (if_pos c_3).symm.trans hfn
        refine lv_iconst (v := 5) hx hb dX10_kindOf_40 zci_5 ?_
        refine lv_goto (tgt := 45) hx hb dX10_kindOf_41 (of_decide_eq_true rfl) ?_
        have ho := Option.some.inj hfn
        subst ho
        exact zri hx hb hr hK hP hD hS hQ rfl hlocks dX10_kindOf_45
      have hfn := (if_neg c_3).symm.trans hfn
      refine lv_iload_n hx hb dX10_kindOf_34 rfl (lv_at hl 0 rfl) ?_
      refine lv_bipush (v := 32) hx hb dX10_kindOf_35 zcb_32 ?_
      refine lv_icmp_ne (tgt := 44) hx hb dX10_kindOf_37 (of_decide_eq_true rfl) (fun c_4 => ?_) (fun c_4 => ?_)
      · have hfn := (if_neg c_4).symm.trans hfn
        refine lv_iconst (v := 3) hx hb dX10_kindOf_44 zci_3 ?_
        have ho := Option.some.inj hfn
        subst ho
        exact zri hx hb hr hK hP hD hS hQ rfl hlocks dX10_kindOf_45
      have hfn := (if_pos c_4).symm.trans hfn
      refine lv_iconst (v := 5) hx hb dX10_kindOf_40 zci_5 ?_
      refine lv_goto (tgt := 45) hx hb dX10_kindOf_41 (of_decide_eq_true rfl) ?_
      have ho := Option.some.inj hfn
      subst ho
      exact zri hx hb hr hK hP hD hS hQ rfl hlocks dX10_kindOf_45
    refine lv_icmp_lt (tgt := 28) hx hb dX10_kindOf_17 (of_decide_eq_true rfl) (fun c_5 => ?_) (fun c_5 => ?_)
    · have hfn := (if_pos c_5).symm.trans hfn
      exact jp_2 () H locs ls hfn hP hD hS (lv_sub hl [0] rfl)
    have hfn := (if_neg c_5).symm.trans hfn
    refine lv_iload_n hx hb dX10_kindOf_20 rfl (lv_at hl 0 rfl) ?_
    refine lv_bipush (v := 57) hx hb dX10_kindOf_21 zcb_57 ?_
    refine lv_icmp_gt (tgt := 28) hx hb dX10_kindOf_23 (of_decide_eq_true rfl) (fun c_6 => ?_) (fun c_6 => ?_)
    · have hfn := (if_pos c_6).symm.trans hfn
      exact jp_2 () H locs ls hfn hP hD hS (lv_sub hl [0] rfl)
    have hfn := (if_neg c_6).symm.trans hfn
    refine lv_iconst (v := 2) hx hb dX10_kindOf_26 zci_2 ?_
    have ho := Option.some.inj hfn
    subst ho
    exact zri hx hb hr hK hP hD hS hQ rfl hlocks dX10_kindOf_27
  refine lv_icmp_lt (tgt := 14) hx hb dX10_kindOf_3 (of_decide_eq_true rfl) (fun c_7 => ?_) (fun c_7 => ?_)
  · have hfn := (if_pos c_7).symm.trans hfn
    exact jp_1 () s.heap [] ls hfn hP hD hS (lv_sub hl [0] rfl)
  have hfn := (if_neg c_7).symm.trans hfn
  refine lv_iload_n hx hb dX10_kindOf_6 rfl (lv_at hl 0 rfl) ?_
  refine lv_bipush (v := 122) hx hb dX10_kindOf_7 zcb_122 ?_
  refine lv_icmp_gt (tgt := 14) hx hb dX10_kindOf_9 (of_decide_eq_true rfl) (fun c_8 => ?_) (fun c_8 => ?_)
  · have hfn := (if_pos c_8).symm.trans hfn
    exact jp_1 () s.heap [] ls hfn hP hD hS (lv_sub hl [0] rfl)
  have hfn := (if_neg c_8).symm.trans hfn
  refine lv_iconst (v := 1) hx hb dX10_kindOf_12 zci_1 ?_
  have ho := Option.some.inj hfn
  subst ho
  exact zri hx hb hr hK hP hD hS hQ rfl hlocks dX10_kindOf_13
theorem zn_X10_addByte_X10 : ∀ w ∈ wsX100, w ∈ wsX10_addByte := fun _ h => List.mem_cons_of_mem _ (List.mem_append_right _ h)
theorem zw_X10_addByte_404 : Cond.fieldLink RX10 46 "ShortEnough$Words" "kind" "I" ∈ wsX10_addByte := List.mem_of_getElem? (i := 1) (by decide +kernel)
theorem zw_X10_addByte_405 : Cond.fieldLink RX10 59 "ShortEnough$Words" "value" "I" ∈ wsX10_addByte := List.mem_of_getElem? (i := 2) (by decide +kernel)
set_option maxHeartbeats 4000000 in
set_option maxRecDepth 100000 in
theorem zf_X10_addByte (l : Launch) (dC : Nat → ClassId) (dI : Nat → Nat → Nat) (h0 : Nat) (p1 : Int32) (p2 : Int32) (r0_0 : Nat) (r0_1 : Nat) (v0_2 : Int32) (v0_3 : Int32) (v0_4 : Int32) (v0_5 : Int32) (v0_6 : Int32) (v0_7 : Int32) (o : Int32) (hfn : fn_X10_addByte p1 p2 v0_4 v0_6 = some o) (sz : Nat) : zMv l yX10_addByte wsX10_addByte ({ frames := 0, cells := 0, slots := 0, locals := 0 }) (dC, dI) vwCl [.ref h0, .int p1, .int p2] [zV10 h0 r0_0 r0_1 v0_2 v0_3 v0_4 v0_5 v0_6 v0_7] [] (fun _ => True) [zV10 h0 r0_0 r0_1 v0_2 v0_3 v0_4 v0_5 o v0_7] [] sz := by
  refine zgov (cc := cX10_addByte) (maxL := 3) (ret := none) (C0 := RX10) (lv0 := [(0, .ref h0), (1, .int p1), (2, .int p2)]) zpl_X10 rfl rfl rfl (Nat.le_of_ble_eq_true rfl) ?_
  intro p e s m below meth c A ls Q hx hb hr hts hown hlocks hml hP hK hD hA hS hl hQ
  unfold fn_X10_addByte at hfn
  refine lv_aload_n hx hb dX10_addByte_0 rfl (lv_at hl 0 rfl) ?_
  refine va_get (D := (dC, dI)) (ci := 10) (v := .int v0_4) (C := RX10) (T := TX10) (N := 8) hx hb hts zn_X10_addByte_X10 hown hK hP 0 rfl rfl 4 (of_decide_eq_true rfl) (hts (.fieldLink RX10 46 "ShortEnough$Words" "kind" "I") zw_X10_addByte_404) (fun _ h9 => h9) rfl dX10_addByte_1 ?_
  refine lv_iconst (v := 3) hx hb dX10_addByte_4 zci_3 ?_
  refine lv_icmp_ne (tgt := 16) hx hb dX10_addByte_5 (of_decide_eq_true rfl) (fun c_1 => ?_) (fun c_1 => ?_)
  · have hfn := (if_neg c_1).symm.trans hfn
    refine lv_aload_n hx hb dX10_addByte_16 rfl (lv_at hl 0 rfl) ?_
    refine va_get (D := (dC, dI)) (ci := 10) (v := .int v0_4) (C := RX10) (T := TX10) (N := 8) hx hb hts zn_X10_addByte_X10 hown hK hP 0 rfl rfl 4 (of_decide_eq_true rfl) (hts (.fieldLink RX10 46 "ShortEnough$Words" "kind" "I") zw_X10_addByte_404) (fun _ h9 => h9) rfl dX10_addByte_17 ?_
    refine lv_iconst (v := 1) hx hb dX10_addByte_20 zci_1 ?_
    obtain ⟨j_2, ej_2, hfn⟩ := zj_g hfn
    have jp_2 : ∀ (s_2 : Unit) (H : Heap) (locs : List Loc) (ls : Array Slot), j_2 s_2 = some o → va_P (dC, dI) vwCl [zV10 h0 r0_0 r0_1 v0_2 v0_3 v0_4 v0_5 v0_6 v0_7] H → va_D A [zV10 h0 r0_0 r0_1 v0_2 v0_3 v0_4 v0_5 v0_6 v0_7] → va_S A s.heap H locs → lv_has ls 3 [(0, .ref h0), (1, .int p1), (2, .int p2)] → W p l e (headSpec wsX10_addByte ({ frames := 0, cells := 0, slots := 0, locals := 0 })).room s m ([.ref h0, .int p1, .int p2] : List Value).toArray below meth c H locs 0 0 Q (F0 m 55 ls []) := by
      intro s_2 H locs ls hfn hP hD hS hl
      have hfn := zj_s ej_2 hfn
      refine lv_aload_n hx hb dX10_addByte_55 rfl (lv_at hl 0 rfl) ?_
      refine va_get (D := (dC, dI)) (ci := 10) (v := .int v0_4) (C := RX10) (T := TX10) (N := 8) hx hb hts zn_X10_addByte_X10 hown hK hP 0 rfl rfl 4 (of_decide_eq_true rfl) (hts (.fieldLink RX10 46 "ShortEnough$Words" "kind" "I") zw_X10_addByte_404) (fun _ h9 => h9) rfl dX10_addByte_56 ?_
      refine lv_iconst (v := 2) hx hb dX10_addByte_59 zci_2 ?_
      refine lv_icmp_ne (tgt := 85) hx hb dX10_addByte_60 (of_decide_eq_true rfl) (fun c_3 => ?_) (fun c_3 => ?_)
      · have hfn := (if_neg c_3).symm.trans hfn
        have ho := Option.some.inj hfn
        subst ho
        exact zrv hx hb hr hK hP hD hS hQ trivial hlocks dX10_addByte_85
      have hfn := (if_pos c_3).symm.trans hfn
      refine lv_iload_n hx hb dX10_addByte_63 rfl (lv_at hl 2 rfl) ?_
      refine lv_bipush (v := 8) hx hb dX10_addByte_64 zcb_8 ?_
      refine lv_icmp_gt (tgt := 85) hx hb dX10_addByte_66 (of_decide_eq_true rfl) (fun c_4 => ?_) (fun c_4 => ?_)
      · have hfn := (if_pos c_4).symm.trans hfn
        have ho := Option.some.inj hfn
        subst ho
        exact zrv hx hb hr hK hP hD hS hQ trivial hlocks dX10_addByte_85
      have hfn := (if_neg c_4).symm.trans hfn
      refine lv_aload_n hx hb dX10_addByte_69 rfl (lv_at hl 0 rfl) ?_
      refine lv_aload_n hx hb dX10_addByte_70 rfl (lv_at hl 0 rfl) ?_
      refine va_get (D := (dC, dI)) (ci := 10) (v := .int v0_6) (C := RX10) (T := TX10) (N := 8) hx hb hts zn_X10_addByte_X10 hown hK hP 0 rfl rfl 6 (of_decide_eq_true rfl) (hts (.fieldLink RX10 59 "ShortEnough$Words" "value" "I") zw_X10_addByte_405) (fun _ h9 => h9) rfl dX10_addByte_71 ?_
      refine lv_bipush (v := 10) hx hb dX10_addByte_74 zcb_10 ?_
      refine lv_imul hx hb dX10_addByte_76 ?_
      refine lv_iload_n hx hb dX10_addByte_77 rfl (lv_at hl 1 rfl) ?_
      refine lv_iadd hx hb dX10_addByte_78 ?_
      refine lv_bipush (v := 48) hx hb dX10_addByte_79 zcb_48 ?_
      refine lv_isub hx hb dX10_addByte_81 ?_
      refine va_put (D := (dC, dI)) (ci := 10) (v := .int (((v0_6 * 10) + p1) - 48)) (ty := .int) (C := RX10) (T := TX10) (N := 8) hx hb hts zn_X10_addByte_X10 tyX10 tyX10_ok nmX10 hown hK hP hD hS 0 rfl rfl 6 (of_decide_eq_true rfl) (hts (.fieldLink RX10 59 "ShortEnough$Words" "value" "I") zw_X10_addByte_405) (fun _ h9 => h9) rfl (tyX10_ok 6 (of_decide_eq_true rfl)) rfl rfl (Nat.le_of_ble_eq_true rfl) dX10_addByte_82 (fun H locs hP hD hS => ?_)
      have hP : va_P (dC, dI) vwCl [zV10 h0 r0_0 r0_1 v0_2 v0_3 v0_4 v0_5 (((v0_6 * 10) + p1) - 48) v0_7] H := hP
      have hD := zDW hD hP rfl
      have ho := Option.some.inj hfn
      subst ho
      exact zrv hx hb hr hK hP hD hS hQ trivial hlocks dX10_addByte_85
    refine lv_icmp_ne (tgt := 55) hx hb dX10_addByte_21 (of_decide_eq_true rfl) (fun c_5 => ?_) (fun c_5 => ?_)
    · have hfn := (if_neg c_5).symm.trans hfn
      exact jp_2 () s.heap [] ls hfn hP hD hS (lv_sub hl [0, 1, 2] rfl)
    have hfn := (if_pos c_5).symm.trans hfn
    refine lv_iload_n hx hb dX10_addByte_24 rfl (lv_at hl 2 rfl) ?_
    refine lv_bipush (v := 6) hx hb dX10_addByte_25 zcb_6 ?_
    refine lv_icmp_gt (tgt := 55) hx hb dX10_addByte_27 (of_decide_eq_true rfl) (fun c_6 => ?_) (fun c_6 => ?_)
    · have hfn := (if_pos c_6).symm.trans hfn
      exact jp_2 () s.heap [] ls hfn hP hD hS (lv_sub hl [0, 1, 2] rfl)
    have hfn := (if_neg c_6).symm.trans hfn
    refine lv_aload_n hx hb dX10_addByte_30 rfl (lv_at hl 0 rfl) ?_
    refine lv_dup hx hb dX10_addByte_31 rfl ?_
    refine va_get (D := (dC, dI)) (ci := 10) (v := .int v0_6) (C := RX10) (T := TX10) (N := 8) hx hb hts zn_X10_addByte_X10 hown hK hP 0 rfl rfl 6 (of_decide_eq_true rfl) (hts (.fieldLink RX10 59 "ShortEnough$Words" "value" "I") zw_X10_addByte_405) (fun _ h9 => h9) rfl dX10_addByte_32 ?_
    refine lv_iload_n hx hb dX10_addByte_35 rfl (lv_at hl 1 rfl) ?_
    refine lv_bipush (v := 97) hx hb dX10_addByte_36 zcb_97 ?_
    refine lv_isub hx hb dX10_addByte_38 ?_
    refine lv_iconst (v := 1) hx hb dX10_addByte_39 zci_1 ?_
    refine lv_iadd hx hb dX10_addByte_40 ?_
    refine lv_iconst (v := 5) hx hb dX10_addByte_41 zci_5 ?_
    refine lv_bipush (v := 6) hx hb dX10_addByte_42 zcb_6 ?_
    refine lv_iload_n hx hb dX10_addByte_44 rfl (lv_at hl 2 rfl) ?_
    refine lv_isub hx hb dX10_addByte_45 ?_
    refine lv_imul hx hb dX10_addByte_46 ?_
    refine lv_ishl hx hb dX10_addByte_47 ?_
    refine lv_ior hx hb dX10_addByte_48 ?_
    refine va_put (D := (dC, dI)) (ci := 10) (v := .int (v0_6 ||| (((p1 - 97) + 1) <<< ((5 * (6 - p2)) &&& 31)))) (ty := .int) (C := RX10) (T := TX10) (N := 8) hx hb hts zn_X10_addByte_X10 tyX10 tyX10_ok nmX10 hown hK hP hD hS 0 rfl rfl 6 (of_decide_eq_true rfl) (hts (.fieldLink RX10 59 "ShortEnough$Words" "value" "I") zw_X10_addByte_405) (fun _ h9 => h9) rfl (tyX10_ok 6 (of_decide_eq_true rfl)) rfl rfl (Nat.le_of_ble_eq_true rfl) dX10_addByte_49 (fun H locs hP hD hS => ?_)
    have hP : va_P (dC, dI) vwCl [(h0, .inr (10, [.ref r0_0, .ref r0_1, .int v0_2, .int v0_3, .int v0_4, .int v0_5, .int (v0_6 ||| (((p1 - 97) + 1) <<< ((5 * (6 - p2)) &&& 31))), .int v0_7]))] H := hP
    have hD := zDW hD hP rfl
    refine lv_goto (tgt := 85) hx hb dX10_addByte_52 (of_decide_eq_true rfl) ?_
    have ho := Option.some.inj hfn
    subst ho
    exact zrv hx hb hr hK hP hD hS hQ trivial hlocks dX10_addByte_85
  have hfn := (if_pos c_1).symm.trans hfn
  refine lv_aload_n hx hb dX10_addByte_8 rfl (lv_at hl 0 rfl) ?_
  refine lv_iload_n hx hb dX10_addByte_9 rfl (lv_at hl 1 rfl) ?_
  refine va_put (D := (dC, dI)) (ci := 10) (v := .int p1) (ty := .int) (C := RX10) (T := TX10) (N := 8) hx hb hts zn_X10_addByte_X10 tyX10 tyX10_ok nmX10 hown hK hP hD hS 0 rfl rfl 6 (of_decide_eq_true rfl) (hts (.fieldLink RX10 59 "ShortEnough$Words" "value" "I") zw_X10_addByte_405) (fun _ h9 => h9) rfl (tyX10_ok 6 (of_decide_eq_true rfl)) rfl rfl (Nat.le_of_ble_eq_true rfl) dX10_addByte_10 (fun H locs hP hD hS => ?_)
  have hP : va_P (dC, dI) vwCl [zV10 h0 r0_0 r0_1 v0_2 v0_3 v0_4 v0_5 p1 v0_7] H := hP
  have hD := zDW hD hP rfl
  refine lv_goto (tgt := 85) hx hb dX10_addByte_13 (of_decide_eq_true rfl) ?_
  have ho := Option.some.inj hfn
  subst ho
  exact zrv hx hb hr hK hP hD hS hQ trivial hlocks dX10_addByte_85
theorem zn_X10_findOwn_X10 : ∀ w ∈ wsX100, w ∈ wsX10_findOwn := fun _ h => List.mem_cons_of_mem _ (List.mem_append_right _ h)
theorem zw_X10_findOwn_408 : Cond.fieldLink RX10 11 "ShortEnough$Words" "ownNames" "[I" ∈ wsX10_findOwn := List.mem_of_getElem? (i := 1) (by decide +kernel)
set_option maxHeartbeats 4000000 in
set_option maxRecDepth 100000 in
theorem zf_X10_findOwn (l : Launch) (dC : Nat → ClassId) (dI : Nat → Nat → Nat) (h0 : Nat) (p1 : Int32) (r0_0 : Nat) (r0_1 : Nat) (v0_2 : Int32) (v0_3 : Int32) (v0_4 : Int32) (v0_5 : Int32) (v0_6 : Int32) (v0_7 : Int32) (k1 : Nat) (f1 : Nat → Int32) (o : Int32) (hfn : fn_X10_findOwn p1 f1 = some o) (sz : Nat) : zMi l yX10_findOwn wsX10_findOwn ({ frames := 0, cells := 0, slots := 0, locals := 0 }) (dC, dI) vwCl [.ref h0, .int p1] [zV10 h0 r0_0 r0_1 v0_2 v0_3 v0_4 v0_5 v0_6 v0_7, zVi r0_0 k1 13 f1] [(k1, .int)] (fun r _ => r = o) [zV10 h0 r0_0 r0_1 v0_2 v0_3 v0_4 v0_5 v0_6 v0_7, zVi r0_0 k1 13 f1] [(k1, .int)] sz := by
  refine zgoi (cc := cX10_findOwn) (maxL := 3) (ret := (some .int)) (C0 := RX10) (lv0 := [(0, .ref h0), (1, .int p1)]) zpl_X10 rfl rfl rfl (Nat.le_of_ble_eq_true rfl) ?_
  intro p e s m below meth c A ls Q hx hb hr hts hown hlocks hml hP hK hD hA hS hl hQ
  unfold fn_X10_findOwn at hfn
  refine lv_iconst (v := 0) hx hb dX10_findOwn_0 zci_0 ?_
  refine lv_istore_n (lv' := [(2, .int 0), (0, .ref h0), (1, .int p1)]) hx hb dX10_findOwn_1 rfl hl (of_decide_eq_true rfl) rfl (fun ls hl => ?_)
  obtain ⟨bd_1, ebd_1, hfn⟩ := zl_g hfn
  have lp_1 : ∀ (n : Nat) (s_1 : Int32) (H : Heap) (locs : List Loc) (ls : Array Slot), zl bd_1 n s_1 = some o → va_P (dC, dI) vwCl [zV10 h0 r0_0 r0_1 v0_2 v0_3 v0_4 v0_5 v0_6 v0_7, zVi r0_0 k1 13 f1] H → va_D A [zV10 h0 r0_0 r0_1 v0_2 v0_3 v0_4 v0_5 v0_6 v0_7, zVi r0_0 k1 13 f1] → va_S A s.heap H locs → lv_has ls 3 [(2, .int s_1), (0, .ref h0), (1, .int p1)] → W p l e (headSpec wsX10_findOwn ({ frames := 0, cells := 0, slots := 0, locals := 0 })).room s m ([.ref h0, .int p1] : List Value).toArray below meth c H locs 0 0 Q (F0 m 2 ls []) := by
    intro n
    induction n with
    | zero => exact fun _ _ _ _ hfn => (zl_0 hfn).elim
    | succ n ih_1 =>
      intro s_1 H locs ls hfn hP hD hS hl
      have hfn := zl_s ebd_1 hfn
      refine lv_iload_n hx hb dX10_findOwn_2 rfl (lv_at hl 0 rfl) ?_
      refine lv_bipush (v := 13) hx hb dX10_findOwn_3 zcb_13 ?_
      refine lv_icmp_ge (tgt := 26) hx hb dX10_findOwn_5 (of_decide_eq_true rfl) (fun c_2 => ?_) (fun c_2 => ?_)
      · have hfn := (if_pos c_2).symm.trans hfn
        refine lv_iconst (v := (-1)) hx hb dX10_findOwn_26 zci_m1 ?_
        have ho := Option.some.inj hfn
        subst ho
        exact zri hx hb hr hK hP hD hS hQ rfl hlocks dX10_findOwn_27
      have hfn := (if_neg c_2).symm.trans hfn
      refine lv_aload_n hx hb dX10_findOwn_8 rfl (lv_at hl 1 rfl) ?_
      refine va_get (D := (dC, dI)) (ci := 10) (v := .ref r0_0) (C := RX10) (T := TX10) (N := 8) hx hb hts zn_X10_findOwn_X10 hown hK hP 0 rfl rfl 0 (of_decide_eq_true rfl) (hts (.fieldLink RX10 11 "ShortEnough$Words" "ownNames" "[I") zw_X10_findOwn_408) (fun _ h9 => h9) rfl dX10_findOwn_9 ?_
      refine lv_iload_n hx hb dX10_findOwn_12 rfl (lv_at hl 0 rfl) ?_
      obtain ⟨h_3, hfn⟩ := zg_s hfn
      refine va_iald hx hb hK hP 1 0 rfl rfl h_3 dX10_findOwn_13 ?_
      refine lv_iload_n hx hb dX10_findOwn_14 rfl (lv_at hl 2 rfl) ?_
      refine lv_icmp_ne (tgt := 20) hx hb dX10_findOwn_15 (of_decide_eq_true rfl) (fun c_4 => ?_) (fun c_4 => ?_)
      · have hfn := (if_neg c_4).symm.trans hfn
        refine lv_iinc (v := (s_1 + 1)) (lv' := [(2, .int (s_1 + 1)), (0, .ref h0), (1, .int p1)]) hx hb dX10_findOwn_20 hl (k := 0) rfl rfl (of_decide_eq_true rfl) rfl (fun ls hl => ?_)
        refine lv_goto (tgt := 2) hx hb dX10_findOwn_23 (of_decide_eq_true rfl) ?_
        exact ih_1 (s_1 + 1) H locs ls hfn hP hD hS (lv_sub hl [0, 1, 2] rfl)
      have hfn := (if_pos c_4).symm.trans hfn
      refine lv_iload_n hx hb dX10_findOwn_18 rfl (lv_at hl 0 rfl) ?_
      have ho := Option.some.inj hfn
      subst ho
      exact zri hx hb hr hK hP hD hS hQ rfl hlocks dX10_findOwn_19
  exact lp_1 _ 0 s.heap [] ls hfn hP hD hS (lv_sub hl [0, 1, 2] rfl)
theorem zn_X10_advance_X10 : ∀ w ∈ wsX100, w ∈ wsX10_advance := fun _ h => List.mem_cons_of_mem _ (List.mem_append_right _ h)
theorem zw_X10_advance_397 : Cond.fieldLink RX10 43 "ShortEnough$Words" "place" "I" ∈ wsX10_advance := List.mem_of_getElem? (i := 1) (by decide +kernel)
theorem zw_X10_advance_398 : Cond.fieldLink RX10 46 "ShortEnough$Words" "kind" "I" ∈ wsX10_advance := List.mem_of_getElem? (i := 2) (by decide +kernel)
theorem zw_X10_advance_399 : Cond.fieldLink RX10 40 "ShortEnough$Words" "length" "I" ∈ wsX10_advance := List.mem_of_getElem? (i := 3) (by decide +kernel)
theorem zw_X10_advance_400 : Cond.fieldLink RX10 15 "ShortEnough$Words" "text" "[B" ∈ wsX10_advance := List.mem_of_getElem? (i := 4) (by decide +kernel)
theorem zw_X10_advance_401 : Cond.fieldLink RX10 56 "ShortEnough$Words" "start" "I" ∈ wsX10_advance := List.mem_of_getElem? (i := 5) (by decide +kernel)
theorem zw_X10_advance_402 : Cond.fieldLink RX10 59 "ShortEnough$Words" "value" "I" ∈ wsX10_advance := List.mem_of_getElem? (i := 6) (by decide +kernel)
theorem zw_X10_advance_406 : Cond.fieldLink RX10 70 "ShortEnough$Words" "own" "I" ∈ wsX10_advance := List.mem_of_getElem? (i := 7) (by decide +kernel)
set_option maxHeartbeats 4000000 in
set_option maxRecDepth 100000 in
theorem zf_X10_advance (l : Launch) (dC : Nat → ClassId) (dI : Nat → Nat → Nat) (h0 : Nat) (r0_0 : Nat) (r0_1 : Nat) (v0_2 : Int32) (v0_3 : Int32) (v0_4 : Int32) (v0_5 : Int32) (v0_6 : Int32) (v0_7 : Int32) (k1 : Nat) (f1 : Nat → Int32) (k2 : Nat) (f2 : Nat → Int32) (o : Int32 × Int32 × Int32 × Int32 × Int32) (hfn : fn_X10_advance v0_2 v0_3 v0_4 f1 f2 = some o) (sz : Nat) : zMv l yX10_advance wsX10_advance ({ frames := 1, cells := 0, slots := 0, locals := 22 }) (dC, dI) vwCl [.ref h0] [zV10 h0 r0_0 r0_1 v0_2 v0_3 v0_4 v0_5 v0_6 v0_7, zVi r0_1 k1 1200 f1, zVi r0_0 k2 13 f2] [(k1, .byte), (k2, .int)] (fun _ => True) [zV10 h0 r0_0 r0_1 v0_2 o.1 o.2.1 o.2.2.1 o.2.2.2.1 o.2.2.2.2, zVi r0_1 k1 1200 f1, zVi r0_0 k2 13 f2] [(k1, .byte), (k2, .int)] sz := by
  refine zgov (cc := cX10_advance) (maxL := 5) (ret := none) (C0 := RX10) (lv0 := [(0, .ref h0)]) zpl_X10 rfl rfl rfl (Nat.le_of_ble_eq_true rfl) ?_
  intro p e s m below meth c A ls Q hx hb hr hts hown hlocks hml hP hK hD hA hS hl hQ
  unfold fn_X10_advance at hfn
  refine lv_aload_n hx hb dX10_advance_0 rfl (lv_at hl 0 rfl) ?_
  refine va_get (D := (dC, dI)) (ci := 10) (v := .int v0_3) (C := RX10) (T := TX10) (N := 8) hx hb hts zn_X10_advance_X10 hown hK hP 0 rfl rfl 3 (of_decide_eq_true rfl) (hts (.fieldLink RX10 43 "ShortEnough$Words" "place" "I") zw_X10_advance_397) (fun _ h9 => h9) rfl dX10_advance_1 ?_
  refine lv_istore_n (lv' := [(1, .int v0_3), (0, .ref h0)]) hx hb dX10_advance_4 rfl hl (of_decide_eq_true rfl) rfl (fun ls hl => ?_)
  refine lv_aload_n hx hb dX10_advance_5 rfl (lv_at hl 1 rfl) ?_
  refine va_get (D := (dC, dI)) (ci := 10) (v := .int v0_4) (C := RX10) (T := TX10) (N := 8) hx hb hts zn_X10_advance_X10 hown hK hP 0 rfl rfl 4 (of_decide_eq_true rfl) (hts (.fieldLink RX10 46 "ShortEnough$Words" "kind" "I") zw_X10_advance_398) (fun _ h9 => h9) rfl dX10_advance_6 ?_
  refine lv_iconst (v := 1) hx hb dX10_advance_9 zci_1 ?_
  obtain ⟨j_1, ej_1, hfn⟩ := zj_g hfn
  have jp_1 : ∀ (s_1 : Int32) (H : Heap) (locs : List Loc) (ls : Array Slot), j_1 s_1 = some o → va_P (dC, dI) vwCl [zV10 h0 r0_0 r0_1 v0_2 v0_3 v0_4 v0_5 v0_6 v0_7, zVi r0_1 k1 1200 f1, zVi r0_0 k2 13 f2] H → va_D A [zV10 h0 r0_0 r0_1 v0_2 v0_3 v0_4 v0_5 v0_6 v0_7, zVi r0_1 k1 1200 f1, zVi r0_0 k2 13 f2] → va_S A s.heap H locs → lv_has ls 5 [(1, .int v0_3), (0, .ref h0)] → W p l e (headSpec wsX10_advance ({ frames := 1, cells := 0, slots := 0, locals := 22 })).room s m ([.ref h0] : List Value).toArray below meth c H locs 0 0 Q (F0 m 26 ls [.int s_1]) := by
    intro s_1 H locs ls hfn hP hD hS hl
    have hfn := zj_s ej_1 hfn
    refine lv_istore_n (lv' := [(2, .int s_1), (1, .int v0_3), (0, .ref h0)]) hx hb dX10_advance_26 rfl hl (of_decide_eq_true rfl) rfl (fun ls hl => ?_)
    obtain ⟨bd_2, ebd_2, hfn⟩ := zl_g hfn
    have lp_2 : ∀ (n : Nat) (s_2 : Int32) (H : Heap) (locs : List Loc) (ls : Array Slot), zl bd_2 n s_2 = some o → va_P (dC, dI) vwCl [zV10 h0 r0_0 r0_1 v0_2 s_2 v0_4 v0_5 v0_6 v0_7, zVi r0_1 k1 1200 f1, zVi r0_0 k2 13 f2] H → va_D A [zV10 h0 r0_0 r0_1 v0_2 s_2 v0_4 v0_5 v0_6 v0_7, zVi r0_1 k1 1200 f1, zVi r0_0 k2 13 f2] → va_S A s.heap H locs → lv_has ls 5 [(2, .int s_1), (1, .int v0_3), (0, .ref h0)] → W p l e (headSpec wsX10_advance ({ frames := 1, cells := 0, slots := 0, locals := 22 })).room s m ([.ref h0] : List Value).toArray below meth c H locs 0 0 Q (F0 m 27 ls []) := by
      intro n
      induction n with
      | zero => exact fun _ _ _ _ hfn => (zl_0 hfn).elim
      | succ n ih_2 =>
        intro s_2 H locs ls hfn hP hD hS hl
        have hfn := zl_s ebd_2 hfn
        refine lv_aload_n hx hb dX10_advance_27 rfl (lv_at hl 2 rfl) ?_
        refine va_get (D := (dC, dI)) (ci := 10) (v := .int s_2) (C := RX10) (T := TX10) (N := 8) hx hb hts zn_X10_advance_X10 hown hK hP 0 rfl rfl 3 (of_decide_eq_true rfl) (hts (.fieldLink RX10 43 "ShortEnough$Words" "place" "I") zw_X10_advance_397) (fun _ h9 => h9) rfl dX10_advance_28 ?_
        refine lv_aload_n hx hb dX10_advance_31 rfl (lv_at hl 2 rfl) ?_
        refine va_get (D := (dC, dI)) (ci := 10) (v := .int v0_2) (C := RX10) (T := TX10) (N := 8) hx hb hts zn_X10_advance_X10 hown hK hP 0 rfl rfl 2 (of_decide_eq_true rfl) (hts (.fieldLink RX10 40 "ShortEnough$Words" "length" "I") zw_X10_advance_399) (fun _ h9 => h9) rfl dX10_advance_32 ?_
        obtain ⟨j_3, ej_3, hfn⟩ := zj_g hfn
        have jp_3 : ∀ (s_3 : Unit) (H : Heap) (locs : List Loc) (ls : Array Slot), j_3 s_3 = some o → va_P (dC, dI) vwCl [zV10 h0 r0_0 r0_1 v0_2 s_2 v0_4 v0_5 v0_6 v0_7, zVi r0_1 k1 1200 f1, zVi r0_0 k2 13 f2] H → va_D A [zV10 h0 r0_0 r0_1 v0_2 s_2 v0_4 v0_5 v0_6 v0_7, zVi r0_1 k1 1200 f1, zVi r0_0 k2 13 f2] → va_S A s.heap H locs → lv_has ls 5 [(2, .int s_1), (1, .int v0_3), (0, .ref h0)] → W p l e (headSpec wsX10_advance ({ frames := 1, cells := 0, slots := 0, locals := 22 })).room s m ([.ref h0] : List Value).toArray below meth c H locs 0 0 Q (F0 m 67 ls []) := by
          intro s_3 H locs ls hfn hP hD hS hl
          have hfn := zj_s ej_3 hfn
          refine lv_aload_n hx hb dX10_advance_67 rfl (lv_at hl 2 rfl) ?_
          refine lv_aload_n hx hb dX10_advance_68 rfl (lv_at hl 2 rfl) ?_
          refine va_get (D := (dC, dI)) (ci := 10) (v := .int s_2) (C := RX10) (T := TX10) (N := 8) hx hb hts zn_X10_advance_X10 hown hK hP 0 rfl rfl 3 (of_decide_eq_true rfl) (hts (.fieldLink RX10 43 "ShortEnough$Words" "place" "I") zw_X10_advance_397) (fun _ h9 => h9) rfl dX10_advance_69 ?_
          refine va_put (D := (dC, dI)) (ci := 10) (v := .int s_2) (ty := .int) (C := RX10) (T := TX10) (N := 8) hx hb hts zn_X10_advance_X10 tyX10 tyX10_ok nmX10 hown hK hP hD hS 0 rfl rfl 5 (of_decide_eq_true rfl) (hts (.fieldLink RX10 56 "ShortEnough$Words" "start" "I") zw_X10_advance_401) (fun _ h9 => h9) rfl (tyX10_ok 5 (of_decide_eq_true rfl)) rfl rfl (Nat.le_of_ble_eq_true rfl) dX10_advance_72 (fun H locs hP hD hS => ?_)
          have hP : va_P (dC, dI) vwCl [zV10 h0 r0_0 r0_1 v0_2 s_2 v0_4 s_2 v0_6 v0_7, zVi r0_1 k1 1200 f1, zVi r0_0 k2 13 f2] H := hP
          have hD := zDW hD hP rfl
          refine lv_aload_n hx hb dX10_advance_75 rfl (lv_at hl 2 rfl) ?_
          refine lv_aload_n hx hb dX10_advance_76 rfl (lv_at hl 2 rfl) ?_
          refine va_get (D := (dC, dI)) (ci := 10) (v := .int s_2) (C := RX10) (T := TX10) (N := 8) hx hb hts zn_X10_advance_X10 hown hK hP 0 rfl rfl 3 (of_decide_eq_true rfl) (hts (.fieldLink RX10 43 "ShortEnough$Words" "place" "I") zw_X10_advance_397) (fun _ h9 => h9) rfl dX10_advance_77 ?_
          refine lv_aload_n hx hb dX10_advance_80 rfl (lv_at hl 2 rfl) ?_
          refine va_get (D := (dC, dI)) (ci := 10) (v := .int v0_2) (C := RX10) (T := TX10) (N := 8) hx hb hts zn_X10_advance_X10 hown hK hP 0 rfl rfl 2 (of_decide_eq_true rfl) (hts (.fieldLink RX10 40 "ShortEnough$Words" "length" "I") zw_X10_advance_399) (fun _ h9 => h9) rfl dX10_advance_81 ?_
          obtain ⟨j_4, ej_4, hfn⟩ := zj_g hfn
          have jp_4 : ∀ (s_4 : Int32) (H : Heap) (locs : List Loc) (ls : Array Slot), j_4 s_4 = some o → va_P (dC, dI) vwCl [zV10 h0 r0_0 r0_1 v0_2 s_2 v0_4 s_2 v0_6 v0_7, zVi r0_1 k1 1200 f1, zVi r0_0 k2 13 f2] H → va_D A [zV10 h0 r0_0 r0_1 v0_2 s_2 v0_4 s_2 v0_6 v0_7, zVi r0_1 k1 1200 f1, zVi r0_0 k2 13 f2] → va_S A s.heap H locs → lv_has ls 5 [(2, .int s_1), (1, .int v0_3), (0, .ref h0)] → W p l e (headSpec wsX10_advance ({ frames := 1, cells := 0, slots := 0, locals := 22 })).room s m ([.ref h0] : List Value).toArray below meth c H locs 0 0 Q (F0 m 103 ls [.int s_4, .ref h0]) := by
            intro s_4 H locs ls hfn hP hD hS hl
            have hfn := zj_s ej_4 hfn
            refine va_put (D := (dC, dI)) (ci := 10) (v := .int s_4) (ty := .int) (C := RX10) (T := TX10) (N := 8) hx hb hts zn_X10_advance_X10 tyX10 tyX10_ok nmX10 hown hK hP hD hS 0 rfl rfl 4 (of_decide_eq_true rfl) (hts (.fieldLink RX10 46 "ShortEnough$Words" "kind" "I") zw_X10_advance_398) (fun _ h9 => h9) rfl (tyX10_ok 4 (of_decide_eq_true rfl)) rfl rfl (Nat.le_of_ble_eq_true rfl) dX10_advance_103 (fun H locs hP hD hS => ?_)
            have hP : va_P (dC, dI) vwCl [zV10 h0 r0_0 r0_1 v0_2 s_2 s_4 s_2 v0_6 v0_7, zVi r0_1 k1 1200 f1, zVi r0_0 k2 13 f2] H := hP
            have hD := zDW hD hP rfl
            refine lv_aload_n hx hb dX10_advance_106 rfl (lv_at hl 2 rfl) ?_
            refine lv_iconst (v := 0) hx hb dX10_advance_107 zci_0 ?_
            refine va_put (D := (dC, dI)) (ci := 10) (v := .int 0) (ty := .int) (C := RX10) (T := TX10) (N := 8) hx hb hts zn_X10_advance_X10 tyX10 tyX10_ok nmX10 hown hK hP hD hS 0 rfl rfl 6 (of_decide_eq_true rfl) (hts (.fieldLink RX10 59 "ShortEnough$Words" "value" "I") zw_X10_advance_402) (fun _ h9 => h9) rfl (tyX10_ok 6 (of_decide_eq_true rfl)) rfl rfl (Nat.le_of_ble_eq_true rfl) dX10_advance_108 (fun H locs hP hD hS => ?_)
            have hP : va_P (dC, dI) vwCl [zV10 h0 r0_0 r0_1 v0_2 s_2 s_4 s_2 0 v0_7, zVi r0_1 k1 1200 f1, zVi r0_0 k2 13 f2] H := hP
            have hD := zDW hD hP rfl
            refine lv_iconst (v := 0) hx hb dX10_advance_111 zci_0 ?_
            refine lv_istore_n (lv' := [(3, .int 0), (2, .int s_1), (1, .int v0_3), (0, .ref h0)]) hx hb dX10_advance_112 rfl hl (of_decide_eq_true rfl) rfl (fun ls hl => ?_)
            obtain ⟨bd_5, ebd_5, hfn⟩ := zl_g hfn
            have lp_5 : ∀ (n : Nat) (s_5 : Int32 × Int32 × Int32) (H : Heap) (locs : List Loc) (ls : Array Slot), zl bd_5 n s_5 = some o → va_P (dC, dI) vwCl [zV10 h0 r0_0 r0_1 v0_2 s_5.2.1 s_4 s_2 s_5.2.2 v0_7, zVi r0_1 k1 1200 f1, zVi r0_0 k2 13 f2] H → va_D A [zV10 h0 r0_0 r0_1 v0_2 s_5.2.1 s_4 s_2 s_5.2.2 v0_7, zVi r0_1 k1 1200 f1, zVi r0_0 k2 13 f2] → va_S A s.heap H locs → lv_has ls 5 [(3, .int s_5.1), (2, .int s_1), (1, .int v0_3), (0, .ref h0)] → W p l e (headSpec wsX10_advance ({ frames := 1, cells := 0, slots := 0, locals := 22 })).room s m ([.ref h0] : List Value).toArray below meth c H locs 0 0 Q (F0 m 113 ls []) := by
              intro n
              induction n with
              | zero => exact fun _ _ _ _ hfn => (zl_0 hfn).elim
              | succ n ih_5 =>
                intro s_5 H locs ls hfn hP hD hS hl
                have hfn := zl_s ebd_5 hfn
                refine lv_aload_n hx hb dX10_advance_113 rfl (lv_at hl 3 rfl) ?_
                refine va_get (D := (dC, dI)) (ci := 10) (v := .int s_5.2.1) (C := RX10) (T := TX10) (N := 8) hx hb hts zn_X10_advance_X10 hown hK hP 0 rfl rfl 3 (of_decide_eq_true rfl) (hts (.fieldLink RX10 43 "ShortEnough$Words" "place" "I") zw_X10_advance_397) (fun _ h9 => h9) rfl dX10_advance_114 ?_
                refine lv_aload_n hx hb dX10_advance_117 rfl (lv_at hl 3 rfl) ?_
                refine va_get (D := (dC, dI)) (ci := 10) (v := .int v0_2) (C := RX10) (T := TX10) (N := 8) hx hb hts zn_X10_advance_X10 hown hK hP 0 rfl rfl 2 (of_decide_eq_true rfl) (hts (.fieldLink RX10 40 "ShortEnough$Words" "length" "I") zw_X10_advance_399) (fun _ h9 => h9) rfl dX10_advance_118 ?_
                obtain ⟨j_6, ej_6, hfn⟩ := zj_g hfn
                have jp_6 : ∀ (s_6 : Unit) (H : Heap) (locs : List Loc) (ls : Array Slot), j_6 s_6 = some o → va_P (dC, dI) vwCl [zV10 h0 r0_0 r0_1 v0_2 s_5.2.1 s_4 s_2 s_5.2.2 v0_7, zVi r0_1 k1 1200 f1, zVi r0_0 k2 13 f2] H → va_D A [zV10 h0 r0_0 r0_1 v0_2 s_5.2.1 s_4 s_2 s_5.2.2 v0_7, zVi r0_1 k1 1200 f1, zVi r0_0 k2 13 f2] → va_S A s.heap H locs → lv_has ls 5 [(3, .int s_5.1), (2, .int s_1), (1, .int v0_3), (0, .ref h0)] → W p l e (headSpec wsX10_advance ({ frames := 1, cells := 0, slots := 0, locals := 22 })).room s m ([.ref h0] : List Value).toArray below meth c H locs 0 0 Q (F0 m 185 ls []) := by
                  intro s_6 H locs ls hfn hP hD hS hl
                  have hfn := zj_s ej_6 hfn
                  refine lv_iload_n hx hb dX10_advance_185 rfl (lv_at hl 1 rfl) ?_
                  obtain ⟨j_7, ej_7, hfn⟩ := zj_g hfn
                  have jp_7 : ∀ (s_7 : Int32) (H : Heap) (locs : List Loc) (ls : Array Slot), j_7 s_7 = some o → va_P (dC, dI) vwCl [zV10 h0 r0_0 r0_1 v0_2 s_5.2.1 s_4 s_2 s_5.2.2 v0_7, zVi r0_1 k1 1200 f1, zVi r0_0 k2 13 f2] H → va_D A [zV10 h0 r0_0 r0_1 v0_2 s_5.2.1 s_4 s_2 s_5.2.2 v0_7, zVi r0_1 k1 1200 f1, zVi r0_0 k2 13 f2] → va_S A s.heap H locs → lv_has ls 5 [(3, .int s_5.1), (0, .ref h0)] → W p l e (headSpec wsX10_advance ({ frames := 1, cells := 0, slots := 0, locals := 22 })).room s m ([.ref h0] : List Value).toArray below meth c H locs 0 0 Q (F0 m 218 ls [.int s_7]) := by
                    intro s_7 H locs ls hfn hP hD hS hl
                    have hfn := zj_s ej_7 hfn
                    refine lv_istore (lv' := [(4, .int s_7), (3, .int s_5.1), (0, .ref h0)]) hx hb dX10_advance_218 hl (of_decide_eq_true rfl) rfl (fun ls hl => ?_)
                    refine lv_iload hx hb dX10_advance_220 (lv_at hl 0 rfl) ?_
                    obtain ⟨j_8, ej_8, hfn⟩ := zj_g hfn
                    have jp_8 : ∀ (s_8 : Int32) (H : Heap) (locs : List Loc) (ls : Array Slot), j_8 s_8 = some o → va_P (dC, dI) vwCl [zV10 h0 r0_0 r0_1 v0_2 s_5.2.1 s_8 s_2 s_5.2.2 v0_7, zVi r0_1 k1 1200 f1, zVi r0_0 k2 13 f2] H → va_D A [zV10 h0 r0_0 r0_1 v0_2 s_5.2.1 s_8 s_2 s_5.2.2 v0_7, zVi r0_1 k1 1200 f1, zVi r0_0 k2 13 f2] → va_S A s.heap H locs → lv_has ls 5 [(0, .ref h0)] → W p l e (headSpec wsX10_advance ({ frames := 1, cells := 0, slots := 0, locals := 22 })).room s m ([.ref h0] : List Value).toArray below meth c H locs 0 0 Q (F0 m 258 ls []) := by
                      intro s_8 H locs ls hfn hP hD hS hl
                      have hfn := zj_s ej_8 hfn
                      refine lv_aload_n hx hb dX10_advance_258 rfl (lv_at hl 0 rfl) ?_
                      refine lv_aload_n hx hb dX10_advance_259 rfl (lv_at hl 0 rfl) ?_
                      refine va_get (D := (dC, dI)) (ci := 10) (v := .int s_8) (C := RX10) (T := TX10) (N := 8) hx hb hts zn_X10_advance_X10 hown hK hP 0 rfl rfl 4 (of_decide_eq_true rfl) (hts (.fieldLink RX10 46 "ShortEnough$Words" "kind" "I") zw_X10_advance_398) (fun _ h9 => h9) rfl dX10_advance_260 ?_
                      refine lv_iconst (v := 1) hx hb dX10_advance_263 zci_1 ?_
                      refine lv_icmp_ne (tgt := 278) hx hb dX10_advance_264 (of_decide_eq_true rfl) (fun c_9 => ?_) (fun c_9 => ?_)
                      · have hfn := (if_neg c_9).symm.trans hfn
                        refine lv_iconst (v := (-1)) hx hb dX10_advance_278 zci_m1 ?_
                        refine va_put (D := (dC, dI)) (ci := 10) (v := .int (-1)) (ty := .int) (C := RX10) (T := TX10) (N := 8) hx hb hts zn_X10_advance_X10 tyX10 tyX10_ok nmX10 hown hK hP hD hS 0 rfl rfl 7 (of_decide_eq_true rfl) (hts (.fieldLink RX10 70 "ShortEnough$Words" "own" "I") zw_X10_advance_406) (fun _ h9 => h9) rfl (tyX10_ok 7 (of_decide_eq_true rfl)) rfl rfl (Nat.le_of_ble_eq_true rfl) dX10_advance_279 (fun H locs hP hD hS => ?_)
                        have hP : va_P (dC, dI) vwCl [zV10 h0 r0_0 r0_1 v0_2 s_5.2.1 s_8 s_2 s_5.2.2 (-1), zVi r0_1 k1 1200 f1, zVi r0_0 k2 13 f2] H := hP
                        have hD := zDW hD hP rfl
                        have ho := Option.some.inj hfn
                        subst ho
                        exact zrv hx hb hr hK hP hD hS hQ trivial hlocks dX10_advance_282
                      have hfn := (if_pos c_9).symm.trans hfn
                      refine lv_aload_n hx hb dX10_advance_267 rfl (lv_at hl 0 rfl) ?_
                      refine lv_aload_n hx hb dX10_advance_268 rfl (lv_at hl 0 rfl) ?_
                      refine va_get (D := (dC, dI)) (ci := 10) (v := .int s_5.2.2) (C := RX10) (T := TX10) (N := 8) hx hb hts zn_X10_advance_X10 hown hK hP 0 rfl rfl 6 (of_decide_eq_true rfl) (hts (.fieldLink RX10 59 "ShortEnough$Words" "value" "I") zw_X10_advance_402) (fun _ h9 => h9) rfl dX10_advance_269 ?_
                      obtain ⟨o_10, hqo_10, hfn⟩ := zb_s hfn
                      refine zcVi (ci := 10) (rest := [.ref h0]) (pc' := 275) (ws' := [zV10 h0 r0_0 r0_1 v0_2 s_5.2.1 s_8 s_2 s_5.2.2 v0_7, zVi r0_1 k1 1200 f1, zVi r0_0 k2 13 f2]) hP hK hD hS hA ⟨hx, hb, hml, hown, hts⟩ (zf_X10_findOwn l dC dI h0 s_5.2.2 r0_0 r0_1 v0_2 s_5.2.1 s_8 s_2 s_5.2.2 v0_7 k2 f2 o_10 hqo_10 H.size) (cwV 1 hts gX10_advance_X10_findOwn rfl rfl rfl zhd_X10_findOwn ⟨Nat.le_of_ble_eq_true rfl, Nat.le_of_ble_eq_true rfl⟩) [0, 2] rfl (of_decide_eq_true rfl) [1] rfl rfl rfl rfl hl.1 rfl (Nat.le_of_ble_eq_true rfl) dX10_advance_272 ⟨Nat.le_of_ble_eq_true rfl, Nat.le_of_ble_eq_true rfl⟩ [some 0, none, some 1] (of_decide_eq_true rfl) (of_decide_eq_true rfl) rfl rfl rfl (fun H locs hP hD hS => ?_)
                      refine lv_goto (tgt := 279) hx hb dX10_advance_275 (of_decide_eq_true rfl) ?_
                      refine va_put (D := (dC, dI)) (ci := 10) (v := .int o_10) (ty := .int) (C := RX10) (T := TX10) (N := 8) hx hb hts zn_X10_advance_X10 tyX10 tyX10_ok nmX10 hown hK hP hD hS 0 rfl rfl 7 (of_decide_eq_true rfl) (hts (.fieldLink RX10 70 "ShortEnough$Words" "own" "I") zw_X10_advance_406) (fun _ h9 => h9) rfl (tyX10_ok 7 (of_decide_eq_true rfl)) rfl rfl (Nat.le_of_ble_eq_true rfl) dX10_advance_279 (fun H locs hP hD hS => ?_)
                      have hP : va_P (dC, dI) vwCl [zV10 h0 r0_0 r0_1 v0_2 s_5.2.1 s_8 s_2 s_5.2.2 o_10, zVi r0_1 k1 1200 f1, zVi r0_0 k2 13 f2] H := hP
                      have hD := zDW hD hP rfl
                      have ho := Option.some.inj hfn
                      subst ho
                      exact zrv hx hb hr hK hP hD hS hQ trivial hlocks dX10_advance_282
                    obtain ⟨j_14, ej_14, hfn⟩ := zj_g hfn
                    have jp_14 : ∀ (s_14 : Unit) (H : Heap) (locs : List Loc) (ls : Array Slot), j_14 s_14 = some o → va_P (dC, dI) vwCl [zV10 h0 r0_0 r0_1 v0_2 s_5.2.1 s_4 s_2 s_5.2.2 v0_7, zVi r0_1 k1 1200 f1, zVi r0_0 k2 13 f2] H → va_D A [zV10 h0 r0_0 r0_1 v0_2 s_5.2.1 s_4 s_2 s_5.2.2 v0_7, zVi r0_1 k1 1200 f1, zVi r0_0 k2 13 f2] → va_S A s.heap H locs → lv_has ls 5 [(0, .ref h0)] → W p l e (headSpec wsX10_advance ({ frames := 1, cells := 0, slots := 0, locals := 22 })).room s m ([.ref h0] : List Value).toArray below meth c H locs 0 0 Q (F0 m 253 ls []) := by
                      intro s_14 H locs ls hfn hP hD hS hl
                      have hfn := zj_s ej_14 hfn
                      refine lv_aload_n hx hb dX10_advance_253 rfl (lv_at hl 0 rfl) ?_
                      refine lv_iconst (v := 4) hx hb dX10_advance_254 zci_4 ?_
                      refine va_put (D := (dC, dI)) (ci := 10) (v := .int 4) (ty := .int) (C := RX10) (T := TX10) (N := 8) hx hb hts zn_X10_advance_X10 tyX10 tyX10_ok nmX10 hown hK hP hD hS 0 rfl rfl 4 (of_decide_eq_true rfl) (hts (.fieldLink RX10 46 "ShortEnough$Words" "kind" "I") zw_X10_advance_398) (fun _ h9 => h9) rfl (tyX10_ok 4 (of_decide_eq_true rfl)) rfl rfl (Nat.le_of_ble_eq_true rfl) dX10_advance_255 (fun H locs hP hD hS => ?_)
                      have hP : va_P (dC, dI) vwCl [zV10 h0 r0_0 r0_1 v0_2 s_5.2.1 4 s_2 s_5.2.2 v0_7, zVi r0_1 k1 1200 f1, zVi r0_0 k2 13 f2] H := hP
                      have hD := zDW hD hP rfl
                      exact jp_8 4 H locs ls hfn hP hD hS (lv_sub hl [0] rfl)
                    refine lv_if_ne (tgt := 253) hx hb dX10_advance_222 (of_decide_eq_true rfl) (fun c_15 => ?_) (fun c_15 => ?_)
                    · have hfn := (if_neg c_15).symm.trans hfn
                      exact jp_14 () H locs ls hfn hP hD hS (lv_sub hl [2] rfl)
                    have hfn := (if_pos c_15).symm.trans hfn
                    refine lv_aload_n hx hb dX10_advance_225 rfl (lv_at hl 2 rfl) ?_
                    refine va_get (D := (dC, dI)) (ci := 10) (v := .int s_4) (C := RX10) (T := TX10) (N := 8) hx hb hts zn_X10_advance_X10 hown hK hP 0 rfl rfl 4 (of_decide_eq_true rfl) (hts (.fieldLink RX10 46 "ShortEnough$Words" "kind" "I") zw_X10_advance_398) (fun _ h9 => h9) rfl dX10_advance_226 ?_
                    refine lv_iconst (v := 1) hx hb dX10_advance_229 zci_1 ?_
                    obtain ⟨j_16, ej_16, hfn⟩ := zj_g hfn
                    have jp_16 : ∀ (s_16 : Unit) (H : Heap) (locs : List Loc) (ls : Array Slot), j_16 s_16 = some o → va_P (dC, dI) vwCl [zV10 h0 r0_0 r0_1 v0_2 s_5.2.1 s_4 s_2 s_5.2.2 v0_7, zVi r0_1 k1 1200 f1, zVi r0_0 k2 13 f2] H → va_D A [zV10 h0 r0_0 r0_1 v0_2 s_5.2.1 s_4 s_2 s_5.2.2 v0_7, zVi r0_1 k1 1200 f1, zVi r0_0 k2 13 f2] → va_S A s.heap H locs → lv_has ls 5 [(3, .int s_5.1), (0, .ref h0)] → W p l e (headSpec wsX10_advance ({ frames := 1, cells := 0, slots := 0, locals := 22 })).room s m ([.ref h0] : List Value).toArray below meth c H locs 0 0 Q (F0 m 239 ls []) := by
                      intro s_16 H locs ls hfn hP hD hS hl
                      have hfn := zj_s ej_16 hfn
                      refine lv_aload_n hx hb dX10_advance_239 rfl (lv_at hl 1 rfl) ?_
                      refine va_get (D := (dC, dI)) (ci := 10) (v := .int s_4) (C := RX10) (T := TX10) (N := 8) hx hb hts zn_X10_advance_X10 hown hK hP 0 rfl rfl 4 (of_decide_eq_true rfl) (hts (.fieldLink RX10 46 "ShortEnough$Words" "kind" "I") zw_X10_advance_398) (fun _ h9 => h9) rfl dX10_advance_240 ?_
                      refine lv_iconst (v := 2) hx hb dX10_advance_243 zci_2 ?_
                      refine lv_icmp_ne (tgt := 258) hx hb dX10_advance_244 (of_decide_eq_true rfl) (fun c_17 => ?_) (fun c_17 => ?_)
                      · have hfn := (if_neg c_17).symm.trans hfn
                        exact jp_8 s_4 H locs ls hfn hP hD hS (lv_sub hl [1] rfl)
                      have hfn := (if_pos c_17).symm.trans hfn
                      refine lv_iload_n hx hb dX10_advance_247 rfl (lv_at hl 0 rfl) ?_
                      refine lv_bipush (v := 8) hx hb dX10_advance_248 zcb_8 ?_
                      refine lv_icmp_le (tgt := 258) hx hb dX10_advance_250 (of_decide_eq_true rfl) (fun c_18 => ?_) (fun c_18 => ?_)
                      · have hfn := (if_pos c_18).symm.trans hfn
                        exact jp_8 s_4 H locs ls hfn hP hD hS (lv_sub hl [1] rfl)
                      have hfn := (if_neg c_18).symm.trans hfn
                      exact jp_14 () H locs ls hfn hP hD hS (lv_sub hl [1] rfl)
                    refine lv_icmp_ne (tgt := 239) hx hb dX10_advance_230 (of_decide_eq_true rfl) (fun c_19 => ?_) (fun c_19 => ?_)
                    · have hfn := (if_neg c_19).symm.trans hfn
                      exact jp_16 () H locs ls hfn hP hD hS (lv_sub hl [1, 2] rfl)
                    have hfn := (if_pos c_19).symm.trans hfn
                    refine lv_iload_n hx hb dX10_advance_233 rfl (lv_at hl 1 rfl) ?_
                    refine lv_bipush (v := 6) hx hb dX10_advance_234 zcb_6 ?_
                    refine lv_icmp_gt (tgt := 253) hx hb dX10_advance_236 (of_decide_eq_true rfl) (fun c_20 => ?_) (fun c_20 => ?_)
                    · have hfn := (if_pos c_20).symm.trans hfn
                      exact jp_14 () H locs ls hfn hP hD hS (lv_sub hl [2] rfl)
                    have hfn := (if_neg c_20).symm.trans hfn
                    exact jp_16 () H locs ls hfn hP hD hS (lv_sub hl [1, 2] rfl)
                  obtain ⟨j_21, ej_21, hfn⟩ := zj_g hfn
                  have jp_21 : ∀ (s_21 : Unit) (H : Heap) (locs : List Loc) (ls : Array Slot), j_21 s_21 = some o → va_P (dC, dI) vwCl [zV10 h0 r0_0 r0_1 v0_2 s_5.2.1 s_4 s_2 s_5.2.2 v0_7, zVi r0_1 k1 1200 f1, zVi r0_0 k2 13 f2] H → va_D A [zV10 h0 r0_0 r0_1 v0_2 s_5.2.1 s_4 s_2 s_5.2.2 v0_7, zVi r0_1 k1 1200 f1, zVi r0_0 k2 13 f2] → va_S A s.heap H locs → lv_has ls 5 [(3, .int s_5.1), (0, .ref h0)] → W p l e (headSpec wsX10_advance ({ frames := 1, cells := 0, slots := 0, locals := 22 })).room s m ([.ref h0] : List Value).toArray below meth c H locs 0 0 Q (F0 m 217 ls []) := by
                    intro s_21 H locs ls hfn hP hD hS hl
                    have hfn := zj_s ej_21 hfn
                    refine lv_iconst (v := 0) hx hb dX10_advance_217 zci_0 ?_
                    exact jp_7 0 H locs ls hfn hP hD hS (lv_sub hl [0, 1] rfl)
                  refine lv_if_eq (tgt := 217) hx hb dX10_advance_186 (of_decide_eq_true rfl) (fun c_22 => ?_) (fun c_22 => ?_)
                  · have hfn := (if_pos c_22).symm.trans hfn
                    exact jp_21 () H locs ls hfn hP hD hS (lv_sub hl [0, 3] rfl)
                  have hfn := (if_neg c_22).symm.trans hfn
                  refine lv_aload_n hx hb dX10_advance_189 rfl (lv_at hl 3 rfl) ?_
                  refine va_get (D := (dC, dI)) (ci := 10) (v := .int s_2) (C := RX10) (T := TX10) (N := 8) hx hb hts zn_X10_advance_X10 hown hK hP 0 rfl rfl 5 (of_decide_eq_true rfl) (hts (.fieldLink RX10 56 "ShortEnough$Words" "start" "I") zw_X10_advance_401) (fun _ h9 => h9) rfl dX10_advance_190 ?_
                  refine lv_iload_n hx hb dX10_advance_193 rfl (lv_at hl 2 rfl) ?_
                  refine lv_icmp_ne (tgt := 217) hx hb dX10_advance_194 (of_decide_eq_true rfl) (fun c_23 => ?_) (fun c_23 => ?_)
                  · have hfn := (if_neg c_23).symm.trans hfn
                    exact jp_21 () H locs ls hfn hP hD hS (lv_sub hl [0, 3] rfl)
                  have hfn := (if_pos c_23).symm.trans hfn
                  refine lv_aload_n hx hb dX10_advance_197 rfl (lv_at hl 3 rfl) ?_
                  refine va_get (D := (dC, dI)) (ci := 10) (v := .int s_4) (C := RX10) (T := TX10) (N := 8) hx hb hts zn_X10_advance_X10 hown hK hP 0 rfl rfl 4 (of_decide_eq_true rfl) (hts (.fieldLink RX10 46 "ShortEnough$Words" "kind" "I") zw_X10_advance_398) (fun _ h9 => h9) rfl dX10_advance_198 ?_
                  refine lv_iconst (v := 1) hx hb dX10_advance_201 zci_1 ?_
                  obtain ⟨j_24, ej_24, hfn⟩ := zj_g hfn
                  have jp_24 : ∀ (s_24 : Unit) (H : Heap) (locs : List Loc) (ls : Array Slot), j_24 s_24 = some o → va_P (dC, dI) vwCl [zV10 h0 r0_0 r0_1 v0_2 s_5.2.1 s_4 s_2 s_5.2.2 v0_7, zVi r0_1 k1 1200 f1, zVi r0_0 k2 13 f2] H → va_D A [zV10 h0 r0_0 r0_1 v0_2 s_5.2.1 s_4 s_2 s_5.2.2 v0_7, zVi r0_1 k1 1200 f1, zVi r0_0 k2 13 f2] → va_S A s.heap H locs → lv_has ls 5 [(3, .int s_5.1), (0, .ref h0)] → W p l e (headSpec wsX10_advance ({ frames := 1, cells := 0, slots := 0, locals := 22 })).room s m ([.ref h0] : List Value).toArray below meth c H locs 0 0 Q (F0 m 213 ls []) := by
                    intro s_24 H locs ls hfn hP hD hS hl
                    have hfn := zj_s ej_24 hfn
                    refine lv_iconst (v := 1) hx hb dX10_advance_213 zci_1 ?_
                    refine lv_goto (tgt := 218) hx hb dX10_advance_214 (of_decide_eq_true rfl) ?_
                    exact jp_7 1 H locs ls hfn hP hD hS (lv_sub hl [0, 1] rfl)
                  refine lv_icmp_eq (tgt := 213) hx hb dX10_advance_202 (of_decide_eq_true rfl) (fun c_25 => ?_) (fun c_25 => ?_)
                  · have hfn := (if_pos c_25).symm.trans hfn
                    exact jp_24 () H locs ls hfn hP hD hS (lv_sub hl [0, 3] rfl)
                  have hfn := (if_neg c_25).symm.trans hfn
                  refine lv_aload_n hx hb dX10_advance_205 rfl (lv_at hl 3 rfl) ?_
                  refine va_get (D := (dC, dI)) (ci := 10) (v := .int s_4) (C := RX10) (T := TX10) (N := 8) hx hb hts zn_X10_advance_X10 hown hK hP 0 rfl rfl 4 (of_decide_eq_true rfl) (hts (.fieldLink RX10 46 "ShortEnough$Words" "kind" "I") zw_X10_advance_398) (fun _ h9 => h9) rfl dX10_advance_206 ?_
                  refine lv_iconst (v := 2) hx hb dX10_advance_209 zci_2 ?_
                  refine lv_icmp_ne (tgt := 217) hx hb dX10_advance_210 (of_decide_eq_true rfl) (fun c_26 => ?_) (fun c_26 => ?_)
                  · have hfn := (if_neg c_26).symm.trans hfn
                    exact jp_21 () H locs ls hfn hP hD hS (lv_sub hl [0, 3] rfl)
                  have hfn := (if_pos c_26).symm.trans hfn
                  exact jp_24 () H locs ls hfn hP hD hS (lv_sub hl [0, 3] rfl)
                refine lv_icmp_ge (tgt := 185) hx hb dX10_advance_121 (of_decide_eq_true rfl) (fun c_27 => ?_) (fun c_27 => ?_)
                · have hfn := (if_pos c_27).symm.trans hfn
                  exact jp_6 () H locs ls hfn hP hD hS (lv_sub hl [0, 1, 2, 3] rfl)
                have hfn := (if_neg c_27).symm.trans hfn
                refine lv_aload_n hx hb dX10_advance_124 rfl (lv_at hl 3 rfl) ?_
                refine va_get (D := (dC, dI)) (ci := 10) (v := .ref r0_1) (C := RX10) (T := TX10) (N := 8) hx hb hts zn_X10_advance_X10 hown hK hP 0 rfl rfl 1 (of_decide_eq_true rfl) (hts (.fieldLink RX10 15 "ShortEnough$Words" "text" "[B") zw_X10_advance_400) (fun _ h9 => h9) rfl dX10_advance_125 ?_
                refine lv_aload_n hx hb dX10_advance_128 rfl (lv_at hl 3 rfl) ?_
                refine va_get (D := (dC, dI)) (ci := 10) (v := .int s_5.2.1) (C := RX10) (T := TX10) (N := 8) hx hb hts zn_X10_advance_X10 hown hK hP 0 rfl rfl 3 (of_decide_eq_true rfl) (hts (.fieldLink RX10 43 "ShortEnough$Words" "place" "I") zw_X10_advance_397) (fun _ h9 => h9) rfl dX10_advance_129 ?_
                obtain ⟨h_28, hfn⟩ := zg_s hfn
                refine va_bald hx hb hK hP 1 0 rfl rfl h_28 dX10_advance_132 ?_
                obtain ⟨o_29, hqo_29, hfn⟩ := zb_s hfn
                refine zcSi (rest := []) (pc' := 136) (ws' := [zV10 h0 r0_0 r0_1 v0_2 s_5.2.1 s_4 s_2 s_5.2.2 v0_7, zVi r0_1 k1 1200 f1, zVi r0_0 k2 13 f2]) hP hK hD hS hA ⟨hx, hb, hml, hown, hts⟩ (zf_X10_kindOf l dC dI (f1 s_5.2.1.toNatClampNeg) o_29 hqo_29 H.size) (va_cwS 1 hts gX10_advance_X10_kindOf rfl rfl rfl zhd_X10_kindOf.2 ⟨Nat.le_of_ble_eq_true rfl, Nat.le_of_ble_eq_true rfl⟩) [] rfl (of_decide_eq_true rfl) [] rfl rfl hl.1 rfl (Nat.le_of_ble_eq_true rfl) dX10_advance_133 ⟨Nat.le_of_ble_eq_true rfl, Nat.le_of_ble_eq_true rfl⟩ [] (of_decide_eq_true rfl) (of_decide_eq_true rfl) rfl rfl rfl (fun H locs hP hD hS => ?_)
                refine lv_aload_n hx hb dX10_advance_136 rfl (lv_at hl 3 rfl) ?_
                refine va_get (D := (dC, dI)) (ci := 10) (v := .int s_4) (C := RX10) (T := TX10) (N := 8) hx hb hts zn_X10_advance_X10 hown hK hP 0 rfl rfl 4 (of_decide_eq_true rfl) (hts (.fieldLink RX10 46 "ShortEnough$Words" "kind" "I") zw_X10_advance_398) (fun _ h9 => h9) rfl dX10_advance_137 ?_
                refine lv_icmp_ne (tgt := 185) hx hb dX10_advance_140 (of_decide_eq_true rfl) (fun c_33 => ?_) (fun c_33 => ?_)
                · have hfn := (if_neg c_33).symm.trans hfn
                  exact jp_6 () H locs ls hfn hP hD hS (lv_sub hl [0, 1, 2, 3] rfl)
                have hfn := (if_pos c_33).symm.trans hfn
                refine lv_aload_n hx hb dX10_advance_143 rfl (lv_at hl 3 rfl) ?_
                refine va_get (D := (dC, dI)) (ci := 10) (v := .int s_4) (C := RX10) (T := TX10) (N := 8) hx hb hts zn_X10_advance_X10 hown hK hP 0 rfl rfl 4 (of_decide_eq_true rfl) (hts (.fieldLink RX10 46 "ShortEnough$Words" "kind" "I") zw_X10_advance_398) (fun _ h9 => h9) rfl dX10_advance_144 ?_
                refine lv_iconst (v := 3) hx hb dX10_advance_147 zci_3 ?_
                obtain ⟨j_34, ej_34, hfn⟩ := zj_g hfn
                have jp_34 : ∀ (s_34 : Unit) (H : Heap) (locs : List Loc) (ls : Array Slot), j_34 s_34 = some o → va_P (dC, dI) vwCl [zV10 h0 r0_0 r0_1 v0_2 s_5.2.1 s_4 s_2 s_5.2.2 v0_7, zVi r0_1 k1 1200 f1, zVi r0_0 k2 13 f2] H → va_D A [zV10 h0 r0_0 r0_1 v0_2 s_5.2.1 s_4 s_2 s_5.2.2 v0_7, zVi r0_1 k1 1200 f1, zVi r0_0 k2 13 f2] → va_S A s.heap H locs → lv_has ls 5 [(3, .int s_5.1), (2, .int s_1), (1, .int v0_3), (0, .ref h0)] → W p l e (headSpec wsX10_advance ({ frames := 1, cells := 0, slots := 0, locals := 22 })).room s m ([.ref h0] : List Value).toArray below meth c H locs 0 0 Q (F0 m 155 ls []) := by
                  intro s_34 H locs ls hfn hP hD hS hl
                  have hfn := zj_s ej_34 hfn
                  refine lv_iinc (v := (s_5.1 + 1)) (lv' := [(3, .int (s_5.1 + 1)), (2, .int s_1), (1, .int v0_3), (0, .ref h0)]) hx hb dX10_advance_155 hl (k := 0) rfl rfl (of_decide_eq_true rfl) rfl (fun ls hl => ?_)
                  refine lv_aload_n hx hb dX10_advance_158 rfl (lv_at hl 3 rfl) ?_
                  refine lv_aload_n hx hb dX10_advance_159 rfl (lv_at hl 3 rfl) ?_
                  refine va_get (D := (dC, dI)) (ci := 10) (v := .ref r0_1) (C := RX10) (T := TX10) (N := 8) hx hb hts zn_X10_advance_X10 hown hK hP 0 rfl rfl 1 (of_decide_eq_true rfl) (hts (.fieldLink RX10 15 "ShortEnough$Words" "text" "[B") zw_X10_advance_400) (fun _ h9 => h9) rfl dX10_advance_160 ?_
                  refine lv_aload_n hx hb dX10_advance_163 rfl (lv_at hl 3 rfl) ?_
                  refine va_get (D := (dC, dI)) (ci := 10) (v := .int s_5.2.1) (C := RX10) (T := TX10) (N := 8) hx hb hts zn_X10_advance_X10 hown hK hP 0 rfl rfl 3 (of_decide_eq_true rfl) (hts (.fieldLink RX10 43 "ShortEnough$Words" "place" "I") zw_X10_advance_397) (fun _ h9 => h9) rfl dX10_advance_164 ?_
                  obtain ⟨h_35, hfn⟩ := zg_s hfn
                  refine va_bald hx hb hK hP 1 0 rfl rfl h_35 dX10_advance_167 ?_
                  refine lv_iload_n hx hb dX10_advance_168 rfl (lv_at hl 0 rfl) ?_
                  obtain ⟨o_36, hqo_36, hfn⟩ := zb_s hfn
                  refine zcVv (ci := 10) (rest := []) (pc' := 172) (ws' := [zV10 h0 r0_0 r0_1 v0_2 s_5.2.1 s_4 s_2 o_36 v0_7, zVi r0_1 k1 1200 f1, zVi r0_0 k2 13 f2]) hP hK hD hS hA ⟨hx, hb, hml, hown, hts⟩ (zf_X10_addByte l dC dI h0 (f1 s_5.2.1.toNatClampNeg) (s_5.1 + 1) r0_0 r0_1 v0_2 s_5.2.1 s_4 s_2 s_5.2.2 v0_7 o_36 hqo_36 H.size) (cwV 2 hts gX10_advance_X10_addByte rfl rfl rfl zhd_X10_addByte ⟨Nat.le_of_ble_eq_true rfl, Nat.le_of_ble_eq_true rfl⟩) [0] rfl (of_decide_eq_true rfl) [] rfl rfl rfl rfl hl.1 rfl (Nat.le_of_ble_eq_true rfl) dX10_advance_169 ⟨Nat.le_of_ble_eq_true rfl, Nat.le_of_ble_eq_true rfl⟩ [some 0] (of_decide_eq_true rfl) (of_decide_eq_true rfl) rfl rfl rfl (fun H locs hP hD hS => ?_)
                  refine lv_aload_n hx hb dX10_advance_172 rfl (lv_at hl 3 rfl) ?_
                  refine lv_dup hx hb dX10_advance_173 rfl ?_
                  refine va_get (D := (dC, dI)) (ci := 10) (v := .int s_5.2.1) (C := RX10) (T := TX10) (N := 8) hx hb hts zn_X10_advance_X10 hown hK hP 0 rfl rfl 3 (of_decide_eq_true rfl) (hts (.fieldLink RX10 43 "ShortEnough$Words" "place" "I") zw_X10_advance_397) (fun _ h9 => h9) rfl dX10_advance_174 ?_
                  refine lv_iconst (v := 1) hx hb dX10_advance_177 zci_1 ?_
                  refine lv_iadd hx hb dX10_advance_178 ?_
                  refine va_put (D := (dC, dI)) (ci := 10) (v := .int (s_5.2.1 + 1)) (ty := .int) (C := RX10) (T := TX10) (N := 8) hx hb hts zn_X10_advance_X10 tyX10 tyX10_ok nmX10 hown hK hP hD hS 0 rfl rfl 3 (of_decide_eq_true rfl) (hts (.fieldLink RX10 43 "ShortEnough$Words" "place" "I") zw_X10_advance_397) (fun _ h9 => h9) rfl (tyX10_ok 3 (of_decide_eq_true rfl)) rfl rfl (Nat.le_of_ble_eq_true rfl) dX10_advance_179 (fun H locs hP hD hS => ?_)
                  have hP : va_P (dC, dI) vwCl [zV10 h0 r0_0 r0_1 v0_2 (s_5.2.1 + 1) s_4 s_2 o_36 v0_7, zVi r0_1 k1 1200 f1, zVi r0_0 k2 13 f2] H := hP
                  have hD := zDW hD hP rfl
                  refine lv_goto (tgt := 113) hx hb dX10_advance_182 (of_decide_eq_true rfl) ?_
                  exact ih_5 ((s_5.1 + 1), (s_5.2.1 + 1), o_36) H locs ls hfn hP hD hS (lv_sub hl [0, 1, 2, 3] rfl)
                refine lv_icmp_ne (tgt := 155) hx hb dX10_advance_148 (of_decide_eq_true rfl) (fun c_40 => ?_) (fun c_40 => ?_)
                · have hfn := (if_neg c_40).symm.trans hfn
                  exact jp_34 () H locs ls hfn hP hD hS (lv_sub hl [0, 1, 2, 3] rfl)
                have hfn := (if_pos c_40).symm.trans hfn
                refine lv_iload_n hx hb dX10_advance_151 rfl (lv_at hl 0 rfl) ?_
                refine lv_if_ne (tgt := 185) hx hb dX10_advance_152 (of_decide_eq_true rfl) (fun c_41 => ?_) (fun c_41 => ?_)
                · have hfn := (if_neg c_41).symm.trans hfn
                  exact jp_6 () H locs ls hfn hP hD hS (lv_sub hl [0, 1, 2, 3] rfl)
                have hfn := (if_pos c_41).symm.trans hfn
                exact jp_34 () H locs ls hfn hP hD hS (lv_sub hl [0, 1, 2, 3] rfl)
            exact lp_5 _ (0, s_2, 0) H locs ls hfn hP hD hS (lv_sub hl [0, 1, 2, 3] rfl)
          refine lv_icmp_ge (tgt := 102) hx hb dX10_advance_84 (of_decide_eq_true rfl) (fun c_42 => ?_) (fun c_42 => ?_)
          · have hfn := (if_pos c_42).symm.trans hfn
            refine lv_iconst (v := 0) hx hb dX10_advance_102 zci_0 ?_
            exact jp_4 0 H locs ls hfn hP hD hS (lv_sub hl [0, 1, 2] rfl)
          have hfn := (if_neg c_42).symm.trans hfn
          refine lv_aload_n hx hb dX10_advance_87 rfl (lv_at hl 2 rfl) ?_
          refine va_get (D := (dC, dI)) (ci := 10) (v := .ref r0_1) (C := RX10) (T := TX10) (N := 8) hx hb hts zn_X10_advance_X10 hown hK hP 0 rfl rfl 1 (of_decide_eq_true rfl) (hts (.fieldLink RX10 15 "ShortEnough$Words" "text" "[B") zw_X10_advance_400) (fun _ h9 => h9) rfl dX10_advance_88 ?_
          refine lv_aload_n hx hb dX10_advance_91 rfl (lv_at hl 2 rfl) ?_
          refine va_get (D := (dC, dI)) (ci := 10) (v := .int s_2) (C := RX10) (T := TX10) (N := 8) hx hb hts zn_X10_advance_X10 hown hK hP 0 rfl rfl 3 (of_decide_eq_true rfl) (hts (.fieldLink RX10 43 "ShortEnough$Words" "place" "I") zw_X10_advance_397) (fun _ h9 => h9) rfl dX10_advance_92 ?_
          obtain ⟨h_43, hfn⟩ := zg_s hfn
          refine va_bald hx hb hK hP 1 0 rfl rfl h_43 dX10_advance_95 ?_
          obtain ⟨o_44, hqo_44, hfn⟩ := zb_s hfn
          refine zcSi (rest := [.ref h0]) (pc' := 99) (ws' := [zV10 h0 r0_0 r0_1 v0_2 s_2 v0_4 s_2 v0_6 v0_7, zVi r0_1 k1 1200 f1, zVi r0_0 k2 13 f2]) hP hK hD hS hA ⟨hx, hb, hml, hown, hts⟩ (zf_X10_kindOf l dC dI (f1 s_2.toNatClampNeg) o_44 hqo_44 H.size) (va_cwS 1 hts gX10_advance_X10_kindOf rfl rfl rfl zhd_X10_kindOf.2 ⟨Nat.le_of_ble_eq_true rfl, Nat.le_of_ble_eq_true rfl⟩) [] rfl (of_decide_eq_true rfl) [] rfl rfl hl.1 rfl (Nat.le_of_ble_eq_true rfl) dX10_advance_96 ⟨Nat.le_of_ble_eq_true rfl, Nat.le_of_ble_eq_true rfl⟩ [] (of_decide_eq_true rfl) (of_decide_eq_true rfl) rfl rfl rfl (fun H locs hP hD hS => ?_)
          refine lv_goto (tgt := 103) hx hb dX10_advance_99 (of_decide_eq_true rfl) ?_
          exact jp_4 o_44 H locs ls hfn hP hD hS (lv_sub hl [0, 1, 2] rfl)
        refine lv_icmp_ge (tgt := 67) hx hb dX10_advance_35 (of_decide_eq_true rfl) (fun c_48 => ?_) (fun c_48 => ?_)
        · have hfn := (if_pos c_48).symm.trans hfn
          exact jp_3 () H locs ls hfn hP hD hS (lv_sub hl [0, 1, 2] rfl)
        have hfn := (if_neg c_48).symm.trans hfn
        refine lv_aload_n hx hb dX10_advance_38 rfl (lv_at hl 2 rfl) ?_
        refine va_get (D := (dC, dI)) (ci := 10) (v := .ref r0_1) (C := RX10) (T := TX10) (N := 8) hx hb hts zn_X10_advance_X10 hown hK hP 0 rfl rfl 1 (of_decide_eq_true rfl) (hts (.fieldLink RX10 15 "ShortEnough$Words" "text" "[B") zw_X10_advance_400) (fun _ h9 => h9) rfl dX10_advance_39 ?_
        refine lv_aload_n hx hb dX10_advance_42 rfl (lv_at hl 2 rfl) ?_
        refine va_get (D := (dC, dI)) (ci := 10) (v := .int s_2) (C := RX10) (T := TX10) (N := 8) hx hb hts zn_X10_advance_X10 hown hK hP 0 rfl rfl 3 (of_decide_eq_true rfl) (hts (.fieldLink RX10 43 "ShortEnough$Words" "place" "I") zw_X10_advance_397) (fun _ h9 => h9) rfl dX10_advance_43 ?_
        obtain ⟨h_49, hfn⟩ := zg_s hfn
        refine va_bald hx hb hK hP 1 0 rfl rfl h_49 dX10_advance_46 ?_
        obtain ⟨o_50, hqo_50, hfn⟩ := zb_s hfn
        refine zcSi (rest := []) (pc' := 50) (ws' := [zV10 h0 r0_0 r0_1 v0_2 s_2 v0_4 v0_5 v0_6 v0_7, zVi r0_1 k1 1200 f1, zVi r0_0 k2 13 f2]) hP hK hD hS hA ⟨hx, hb, hml, hown, hts⟩ (zf_X10_kindOf l dC dI (f1 s_2.toNatClampNeg) o_50 hqo_50 H.size) (va_cwS 1 hts gX10_advance_X10_kindOf rfl rfl rfl zhd_X10_kindOf.2 ⟨Nat.le_of_ble_eq_true rfl, Nat.le_of_ble_eq_true rfl⟩) [] rfl (of_decide_eq_true rfl) [] rfl rfl hl.1 rfl (Nat.le_of_ble_eq_true rfl) dX10_advance_47 ⟨Nat.le_of_ble_eq_true rfl, Nat.le_of_ble_eq_true rfl⟩ [] (of_decide_eq_true rfl) (of_decide_eq_true rfl) rfl rfl rfl (fun H locs hP hD hS => ?_)
        refine lv_iconst (v := 5) hx hb dX10_advance_50 zci_5 ?_
        refine lv_icmp_ne (tgt := 67) hx hb dX10_advance_51 (of_decide_eq_true rfl) (fun c_54 => ?_) (fun c_54 => ?_)
        · have hfn := (if_neg c_54).symm.trans hfn
          exact jp_3 () H locs ls hfn hP hD hS (lv_sub hl [0, 1, 2] rfl)
        have hfn := (if_pos c_54).symm.trans hfn
        refine lv_aload_n hx hb dX10_advance_54 rfl (lv_at hl 2 rfl) ?_
        refine lv_dup hx hb dX10_advance_55 rfl ?_
        refine va_get (D := (dC, dI)) (ci := 10) (v := .int s_2) (C := RX10) (T := TX10) (N := 8) hx hb hts zn_X10_advance_X10 hown hK hP 0 rfl rfl 3 (of_decide_eq_true rfl) (hts (.fieldLink RX10 43 "ShortEnough$Words" "place" "I") zw_X10_advance_397) (fun _ h9 => h9) rfl dX10_advance_56 ?_
        refine lv_iconst (v := 1) hx hb dX10_advance_59 zci_1 ?_
        refine lv_iadd hx hb dX10_advance_60 ?_
        refine va_put (D := (dC, dI)) (ci := 10) (v := .int (s_2 + 1)) (ty := .int) (C := RX10) (T := TX10) (N := 8) hx hb hts zn_X10_advance_X10 tyX10 tyX10_ok nmX10 hown hK hP hD hS 0 rfl rfl 3 (of_decide_eq_true rfl) (hts (.fieldLink RX10 43 "ShortEnough$Words" "place" "I") zw_X10_advance_397) (fun _ h9 => h9) rfl (tyX10_ok 3 (of_decide_eq_true rfl)) rfl rfl (Nat.le_of_ble_eq_true rfl) dX10_advance_61 (fun H locs hP hD hS => ?_)
        have hP : va_P (dC, dI) vwCl [zV10 h0 r0_0 r0_1 v0_2 (s_2 + 1) v0_4 v0_5 v0_6 v0_7, zVi r0_1 k1 1200 f1, zVi r0_0 k2 13 f2] H := hP
        have hD := zDW hD hP rfl
        refine lv_goto (tgt := 27) hx hb dX10_advance_64 (of_decide_eq_true rfl) ?_
        exact ih_2 (s_2 + 1) H locs ls hfn hP hD hS (lv_sub hl [0, 1, 2] rfl)
    exact lp_2 _ v0_3 H locs ls hfn hP hD hS (lv_sub hl [0, 1, 2] rfl)
  obtain ⟨j_55, ej_55, hfn⟩ := zj_g hfn
  have jp_55 : ∀ (s_55 : Unit) (H : Heap) (locs : List Loc) (ls : Array Slot), j_55 s_55 = some o → va_P (dC, dI) vwCl [zV10 h0 r0_0 r0_1 v0_2 v0_3 v0_4 v0_5 v0_6 v0_7, zVi r0_1 k1 1200 f1, zVi r0_0 k2 13 f2] H → va_D A [zV10 h0 r0_0 r0_1 v0_2 v0_3 v0_4 v0_5 v0_6 v0_7, zVi r0_1 k1 1200 f1, zVi r0_0 k2 13 f2] → va_S A s.heap H locs → lv_has ls 5 [(1, .int v0_3), (0, .ref h0)] → W p l e (headSpec wsX10_advance ({ frames := 1, cells := 0, slots := 0, locals := 22 })).room s m ([.ref h0] : List Value).toArray below meth c H locs 0 0 Q (F0 m 21 ls []) := by
    intro s_55 H locs ls hfn hP hD hS hl
    have hfn := zj_s ej_55 hfn
    refine lv_iconst (v := 1) hx hb dX10_advance_21 zci_1 ?_
    refine lv_goto (tgt := 26) hx hb dX10_advance_22 (of_decide_eq_true rfl) ?_
    exact jp_1 1 H locs ls hfn hP hD hS (lv_sub hl [0, 1] rfl)
  refine lv_icmp_eq (tgt := 21) hx hb dX10_advance_10 (of_decide_eq_true rfl) (fun c_56 => ?_) (fun c_56 => ?_)
  · have hfn := (if_pos c_56).symm.trans hfn
    exact jp_55 () s.heap [] ls hfn hP hD hS (lv_sub hl [0, 1] rfl)
  have hfn := (if_neg c_56).symm.trans hfn
  refine lv_aload_n hx hb dX10_advance_13 rfl (lv_at hl 1 rfl) ?_
  refine va_get (D := (dC, dI)) (ci := 10) (v := .int v0_4) (C := RX10) (T := TX10) (N := 8) hx hb hts zn_X10_advance_X10 hown hK hP 0 rfl rfl 4 (of_decide_eq_true rfl) (hts (.fieldLink RX10 46 "ShortEnough$Words" "kind" "I") zw_X10_advance_398) (fun _ h9 => h9) rfl dX10_advance_14 ?_
  refine lv_iconst (v := 2) hx hb dX10_advance_17 zci_2 ?_
  refine lv_icmp_ne (tgt := 25) hx hb dX10_advance_18 (of_decide_eq_true rfl) (fun c_57 => ?_) (fun c_57 => ?_)
  · have hfn := (if_neg c_57).symm.trans hfn
    refine lv_iconst (v := 0) hx hb dX10_advance_25 zci_0 ?_
    exact jp_1 0 s.heap [] ls hfn hP hD hS (lv_sub hl [0, 1] rfl)
  have hfn := (if_pos c_57).symm.trans hfn
  exact jp_55 () s.heap [] ls hfn hP hD hS (lv_sub hl [0, 1] rfl)
theorem zn_X10_open_X10 : ∀ w ∈ wsX100, w ∈ wsX10_open := fun _ h => List.mem_cons_of_mem _ (List.mem_append_right _ h)
theorem zw_X10_open_385 : Cond.fieldLink RX10 15 "ShortEnough$Words" "text" "[B" ∈ wsX10_open := List.mem_of_getElem? (i := 1) (by decide +kernel)
theorem zw_X10_open_386 : Cond.methodLink RX10 31 Lib.Math.min.name ∈ wsX10_open := List.mem_of_getElem? (i := 2) (by decide +kernel)
theorem zw_X10_open_387 : Cond.static Lib.Math.min.name ∈ wsX10_open := List.mem_of_getElem? (i := 3) (by decide +kernel)
theorem zw_X10_open_388 : Cond.initialized "java/lang/Math" ∈ wsX10_open := List.mem_of_getElem? (i := 4) (by decide +kernel)
theorem zw_X10_open_389 : Cond.code Lib.Math.min.name Lib.Math.min.code 2 (some .int) ∈ wsX10_open := List.mem_of_getElem? (i := 5) (by decide +kernel)
theorem zw_X10_open_390 : Cond.methodLink RX10 37 Lib.Math.max.name ∈ wsX10_open := List.mem_of_getElem? (i := 6) (by decide +kernel)
theorem zw_X10_open_391 : Cond.static Lib.Math.max.name ∈ wsX10_open := List.mem_of_getElem? (i := 7) (by decide +kernel)
theorem zw_X10_open_392 : Cond.code Lib.Math.max.name Lib.Math.max.code 2 (some .int) ∈ wsX10_open := List.mem_of_getElem? (i := 8) (by decide +kernel)
theorem zw_X10_open_393 : Cond.fieldLink RX10 40 "ShortEnough$Words" "length" "I" ∈ wsX10_open := List.mem_of_getElem? (i := 9) (by decide +kernel)
theorem zw_X10_open_394 : Cond.fieldLink RX10 43 "ShortEnough$Words" "place" "I" ∈ wsX10_open := List.mem_of_getElem? (i := 10) (by decide +kernel)
theorem zw_X10_open_395 : Cond.fieldLink RX10 46 "ShortEnough$Words" "kind" "I" ∈ wsX10_open := List.mem_of_getElem? (i := 11) (by decide +kernel)
set_option maxHeartbeats 4000000 in
set_option maxRecDepth 100000 in
theorem zf_X10_open (l : Launch) (dC : Nat → ClassId) (dI : Nat → Nat → Nat) (h0 : Nat) (h1 : Nat) (p2 : Int32) (r0_0 : Nat) (r0_1 : Nat) (v0_2 : Int32) (v0_3 : Int32) (v0_4 : Int32) (v0_5 : Int32) (v0_6 : Int32) (v0_7 : Int32) (k1 : Nat) (f1 : Nat → Int32) (k2 : Nat) (f2 : Nat → Int32) (o : Int32 × Int32 × Int32 × Int32 × Int32 × Int32) (hfn : fn_X10_open p2 f1 f2 = some o) (sz : Nat) : zMv l yX10_open wsX10_open ({ frames := 2, cells := 0, slots := 0, locals := 46 }) (dC, dI) vwCl [.ref h0, .ref h1, .int p2] [zV10 h0 r0_0 r0_1 v0_2 v0_3 v0_4 v0_5 v0_6 v0_7, zVi h1 k1 1200 f1, zVi r0_0 k2 13 f2] [(k1, .byte), (k2, .int)] (fun _ => True) [zV10 h0 r0_0 h1 o.1 o.2.1 o.2.2.1 o.2.2.2.1 o.2.2.2.2.1 o.2.2.2.2.2, zVi h1 k1 1200 f1, zVi r0_0 k2 13 f2] [(k1, .byte), (k2, .int)] sz := by
  refine zgov (cc := cX10_open) (maxL := 3) (ret := none) (C0 := RX10) (lv0 := [(0, .ref h0), (1, .ref h1), (2, .int p2)]) zpl_X10 rfl rfl rfl (Nat.le_of_ble_eq_true rfl) ?_
  intro p e s m below meth c A ls Q hx hb hr hts hown hlocks hml hP hK hD hA hS hl hQ
  unfold fn_X10_open at hfn
  refine lv_aload_n hx hb dX10_open_0 rfl (lv_at hl 0 rfl) ?_
  refine lv_aload_n hx hb dX10_open_1 rfl (lv_at hl 1 rfl) ?_
  refine va_put (D := (dC, dI)) (ci := 10) (v := .ref h1) (ty := .array .byte) (C := RX10) (T := TX10) (N := 8) hx hb hts zn_X10_open_X10 tyX10 tyX10_ok nmX10 hown hK hP hD hS 0 rfl rfl 1 (of_decide_eq_true rfl) (hts (.fieldLink RX10 15 "ShortEnough$Words" "text" "[B") zw_X10_open_385) (fun _ h9 => h9) rfl (tyX10_ok 1 (of_decide_eq_true rfl)) rfl rfl (Nat.le_of_ble_eq_true rfl) dX10_open_2 (fun H locs hP hD hS => ?_)
  have hP : va_P (dC, dI) vwCl [zV10 h0 r0_0 h1 v0_2 v0_3 v0_4 v0_5 v0_6 v0_7, zVi h1 k1 1200 f1, zVi r0_0 k2 13 f2] H := hP
  have hD := zDW hD hP rfl
  refine lv_aload_n hx hb dX10_open_5 rfl (lv_at hl 0 rfl) ?_
  refine lv_iconst (v := 0) hx hb dX10_open_6 zci_0 ?_
  refine lv_iload_n hx hb dX10_open_7 rfl (lv_at hl 2 rfl) ?_
  refine lv_aload_n hx hb dX10_open_8 rfl (lv_at hl 1 rfl) ?_
  refine va_alen (v := 1200) hx hb hK hP 1 0 rfl rfl (show Int32.ofNat 1200 = 1200 by decide +kernel) dX10_open_9 ?_
  refine va_mmin hx hb (by rw [hml]; exact hl.1.symm) hown (hts (.methodLink RX10 31 Lib.Math.min.name) zw_X10_open_386) (hts (.static Lib.Math.min.name) zw_X10_open_387) (hts (.initialized "java/lang/Math") zw_X10_open_388) (hts (.code Lib.Math.min.name Lib.Math.min.code 2 (some .int)) zw_X10_open_389) (Nat.le_of_ble_eq_true rfl) (Nat.le_of_ble_eq_true rfl) (Nat.le_of_ble_eq_true rfl) (Nat.le_of_ble_eq_true rfl) dX10_open_10 ?_
  refine va_mmax hx hb (by rw [hml]; exact hl.1.symm) hown (hts (.methodLink RX10 37 Lib.Math.max.name) zw_X10_open_390) (hts (.static Lib.Math.max.name) zw_X10_open_391) (hts (.initialized "java/lang/Math") zw_X10_open_388) (hts (.code Lib.Math.max.name Lib.Math.max.code 2 (some .int)) zw_X10_open_392) (Nat.le_of_ble_eq_true rfl) (Nat.le_of_ble_eq_true rfl) (Nat.le_of_ble_eq_true rfl) (Nat.le_of_ble_eq_true rfl) dX10_open_13 ?_
  refine lv_topi (fun x_1 ex_1 => ?_)
  have hfn := zn_s hfn ex_1
  refine va_put (D := (dC, dI)) (ci := 10) (v := .int x_1) (ty := .int) (C := RX10) (T := TX10) (N := 8) hx hb hts zn_X10_open_X10 tyX10 tyX10_ok nmX10 hown hK hP hD hS 0 rfl rfl 2 (of_decide_eq_true rfl) (hts (.fieldLink RX10 40 "ShortEnough$Words" "length" "I") zw_X10_open_393) (fun _ h9 => h9) rfl (tyX10_ok 2 (of_decide_eq_true rfl)) rfl rfl (Nat.le_of_ble_eq_true rfl) dX10_open_16 (fun H locs hP hD hS => ?_)
  have hP : va_P (dC, dI) vwCl [zV10 h0 r0_0 h1 x_1 v0_3 v0_4 v0_5 v0_6 v0_7, zVi h1 k1 1200 f1, zVi r0_0 k2 13 f2] H := hP
  have hD := zDW hD hP rfl
  refine lv_aload_n hx hb dX10_open_19 rfl (lv_at hl 0 rfl) ?_
  refine lv_iconst (v := 0) hx hb dX10_open_20 zci_0 ?_
  refine va_put (D := (dC, dI)) (ci := 10) (v := .int 0) (ty := .int) (C := RX10) (T := TX10) (N := 8) hx hb hts zn_X10_open_X10 tyX10 tyX10_ok nmX10 hown hK hP hD hS 0 rfl rfl 3 (of_decide_eq_true rfl) (hts (.fieldLink RX10 43 "ShortEnough$Words" "place" "I") zw_X10_open_394) (fun _ h9 => h9) rfl (tyX10_ok 3 (of_decide_eq_true rfl)) rfl rfl (Nat.le_of_ble_eq_true rfl) dX10_open_21 (fun H locs hP hD hS => ?_)
  have hP : va_P (dC, dI) vwCl [zV10 h0 r0_0 h1 x_1 0 v0_4 v0_5 v0_6 v0_7, zVi h1 k1 1200 f1, zVi r0_0 k2 13 f2] H := hP
  have hD := zDW hD hP rfl
  refine lv_aload_n hx hb dX10_open_24 rfl (lv_at hl 0 rfl) ?_
  refine lv_iconst (v := 0) hx hb dX10_open_25 zci_0 ?_
  refine va_put (D := (dC, dI)) (ci := 10) (v := .int 0) (ty := .int) (C := RX10) (T := TX10) (N := 8) hx hb hts zn_X10_open_X10 tyX10 tyX10_ok nmX10 hown hK hP hD hS 0 rfl rfl 4 (of_decide_eq_true rfl) (hts (.fieldLink RX10 46 "ShortEnough$Words" "kind" "I") zw_X10_open_395) (fun _ h9 => h9) rfl (tyX10_ok 4 (of_decide_eq_true rfl)) rfl rfl (Nat.le_of_ble_eq_true rfl) dX10_open_26 (fun H locs hP hD hS => ?_)
  have hP : va_P (dC, dI) vwCl [zV10 h0 r0_0 h1 x_1 0 0 v0_5 v0_6 v0_7, zVi h1 k1 1200 f1, zVi r0_0 k2 13 f2] H := hP
  have hD := zDW hD hP rfl
  refine lv_aload_n hx hb dX10_open_29 rfl (lv_at hl 0 rfl) ?_
  obtain ⟨o_2, hqo_2, hfn⟩ := zb_s hfn
  refine zcVv (ci := 10) (rest := []) (pc' := 33) (ws' := [zV10 h0 r0_0 h1 x_1 o_2.1 o_2.2.1 o_2.2.2.1 o_2.2.2.2.1 o_2.2.2.2.2, zVi h1 k1 1200 f1, zVi r0_0 k2 13 f2]) hP hK hD hS hA ⟨hx, hb, hml, hown, hts⟩ (zf_X10_advance l dC dI h0 r0_0 h1 x_1 0 0 v0_5 v0_6 v0_7 k1 f1 k2 f2 o_2 hqo_2 H.size) (cwV 0 hts gX10_open_X10_advance rfl rfl rfl zhd_X10_advance ⟨Nat.le_of_ble_eq_true rfl, Nat.le_of_ble_eq_true rfl⟩) [0, 1, 2] rfl (of_decide_eq_true rfl) [0, 1] rfl rfl rfl rfl hl.1 rfl (Nat.le_of_ble_eq_true rfl) dX10_open_30 ⟨Nat.le_of_ble_eq_true rfl, Nat.le_of_ble_eq_true rfl⟩ [some 0, some 1, some 2] (of_decide_eq_true rfl) (of_decide_eq_true rfl) rfl rfl rfl (fun H locs hP hD hS => ?_)
  have ho := Option.some.inj hfn
  subst ho
  exact zrv hx hb hr hK hP hD hS hQ trivial hlocks dX10_open_33

set_option maxHeartbeats 4000000 in
set_option maxRecDepth 100000 in
theorem zf_X5_startsStatement (l : Launch) (dC : Nat → ClassId) (dI : Nat → Nat → Nat) (p0 : Int32) (o : Int32) (hfn : fn_X5_startsStatement p0 = some o) (sz : Nat) : zMi l yX5_startsStatement wsX5_startsStatement ({ frames := 0, cells := 0, slots := 0, locals := 0 }) (dC, dI) vwCl [.int p0] [] [] (fun r _ => r = o ∧ narrow .boolean (.int o) = .int o) [] [] sz := by
  refine zgoi (cc := cX5_startsStatement) (maxL := 1) (ret := (some .boolean)) (C0 := RX5) (lv0 := [(0, .int p0)]) zpl_X5 rfl rfl rfl (Nat.le_of_ble_eq_true rfl) ?_
  intro p e s m below meth c A ls Q hx hb hr hts hown hlocks hml hP hK hD hA hS hl hQ
  unfold fn_X5_startsStatement at hfn
  refine lv_iload_n hx hb dX5_startsStatement_0 rfl (lv_at hl 0 rfl) ?_
  by_cases c_1 : p0 = 0
  · have hfn := (if_pos c_1).symm.trans hfn
    refine W.eq (g2 := F0 m 1 ls [.int 0]) (by rw [c_1]) ?_
    refine lv_tableIn (tgt := 64) (off := 63) hx hb dX5_startsStatement_1 (by decide +kernel) (by decide +kernel) (by decide +kernel) (of_decide_eq_true rfl) ?_
    refine lv_iconst (v := 1) hx hb dX5_startsStatement_64 zci_1 ?_
    have ho := Option.some.inj hfn
    subst ho
    exact zrz hx hb hr rfl hK hP hD hS hQ ⟨rfl, zB1⟩ hlocks dX5_startsStatement_65
  have hfn := (if_neg c_1).symm.trans hfn
  have oc_1 := zk_ne rfl (by decide +kernel : (0 : Int32).toInt = 0) c_1
  by_cases c_2 : p0 = 1
  · have hfn := (if_pos c_2).symm.trans hfn
    refine W.eq (g2 := F0 m 1 ls [.int 1]) (by rw [c_2]) ?_
    refine lv_tableIn (tgt := 66) (off := 65) hx hb dX5_startsStatement_1 (by decide +kernel) (by decide +kernel) (by decide +kernel) (of_decide_eq_true rfl) ?_
    refine lv_iconst (v := 0) hx hb dX5_startsStatement_66 zci_0 ?_
    have ho := Option.some.inj hfn
    subst ho
    exact zrz hx hb hr rfl hK hP hD hS hQ ⟨rfl, zB0⟩ hlocks dX5_startsStatement_67
  have hfn := (if_neg c_2).symm.trans hfn
  have oc_2 := zk_ne rfl (by decide +kernel : (1 : Int32).toInt = 1) c_2
  by_cases c_3 : p0 = 2
  · have hfn := (if_pos c_3).symm.trans hfn
    refine W.eq (g2 := F0 m 1 ls [.int 2]) (by rw [c_3]) ?_
    refine lv_tableIn (tgt := 66) (off := 65) hx hb dX5_startsStatement_1 (by decide +kernel) (by decide +kernel) (by decide +kernel) (of_decide_eq_true rfl) ?_
    refine lv_iconst (v := 0) hx hb dX5_startsStatement_66 zci_0 ?_
    have ho := Option.some.inj hfn
    subst ho
    exact zrz hx hb hr rfl hK hP hD hS hQ ⟨rfl, zB0⟩ hlocks dX5_startsStatement_67
  have hfn := (if_neg c_3).symm.trans hfn
  have oc_3 := zk_ne rfl (by decide +kernel : (2 : Int32).toInt = 2) c_3
  by_cases c_4 : p0 = 3
  · have hfn := (if_pos c_4).symm.trans hfn
    refine W.eq (g2 := F0 m 1 ls [.int 3]) (by rw [c_4]) ?_
    refine lv_tableIn (tgt := 66) (off := 65) hx hb dX5_startsStatement_1 (by decide +kernel) (by decide +kernel) (by decide +kernel) (of_decide_eq_true rfl) ?_
    refine lv_iconst (v := 0) hx hb dX5_startsStatement_66 zci_0 ?_
    have ho := Option.some.inj hfn
    subst ho
    exact zrz hx hb hr rfl hK hP hD hS hQ ⟨rfl, zB0⟩ hlocks dX5_startsStatement_67
  have hfn := (if_neg c_4).symm.trans hfn
  have oc_4 := zk_ne rfl (by decide +kernel : (3 : Int32).toInt = 3) c_4
  by_cases c_5 : p0 = 4
  · have hfn := (if_pos c_5).symm.trans hfn
    refine W.eq (g2 := F0 m 1 ls [.int 4]) (by rw [c_5]) ?_
    refine lv_tableIn (tgt := 64) (off := 63) hx hb dX5_startsStatement_1 (by decide +kernel) (by decide +kernel) (by decide +kernel) (of_decide_eq_true rfl) ?_
    refine lv_iconst (v := 1) hx hb dX5_startsStatement_64 zci_1 ?_
    have ho := Option.some.inj hfn
    subst ho
    exact zrz hx hb hr rfl hK hP hD hS hQ ⟨rfl, zB1⟩ hlocks dX5_startsStatement_65
  have hfn := (if_neg c_5).symm.trans hfn
  have oc_5 := zk_ne rfl (by decide +kernel : (4 : Int32).toInt = 4) c_5
  by_cases c_6 : p0 = 5
  · have hfn := (if_pos c_6).symm.trans hfn
    refine W.eq (g2 := F0 m 1 ls [.int 5]) (by rw [c_6]) ?_
    refine lv_tableIn (tgt := 64) (off := 63) hx hb dX5_startsStatement_1 (by decide +kernel) (by decide +kernel) (by decide +kernel) (of_decide_eq_true rfl) ?_
    refine lv_iconst (v := 1) hx hb dX5_startsStatement_64 zci_1 ?_
    have ho := Option.some.inj hfn
    subst ho
    exact zrz hx hb hr rfl hK hP hD hS hQ ⟨rfl, zB1⟩ hlocks dX5_startsStatement_65
  have hfn := (if_neg c_6).symm.trans hfn
  have oc_6 := zk_ne rfl (by decide +kernel : (5 : Int32).toInt = 5) c_6
  by_cases c_7 : p0 = 6
  · have hfn := (if_pos c_7).symm.trans hfn
    refine W.eq (g2 := F0 m 1 ls [.int 6]) (by rw [c_7]) ?_
    refine lv_tableIn (tgt := 64) (off := 63) hx hb dX5_startsStatement_1 (by decide +kernel) (by decide +kernel) (by decide +kernel) (of_decide_eq_true rfl) ?_
    refine lv_iconst (v := 1) hx hb dX5_startsStatement_64 zci_1 ?_
    have ho := Option.some.inj hfn
    subst ho
    exact zrz hx hb hr rfl hK hP hD hS hQ ⟨rfl, zB1⟩ hlocks dX5_startsStatement_65
  have hfn := (if_neg c_7).symm.trans hfn
  have oc_7 := zk_ne rfl (by decide +kernel : (6 : Int32).toInt = 6) c_7
  by_cases c_8 : p0 = 7
  · have hfn := (if_pos c_8).symm.trans hfn
    refine W.eq (g2 := F0 m 1 ls [.int 7]) (by rw [c_8]) ?_
    refine lv_tableIn (tgt := 66) (off := 65) hx hb dX5_startsStatement_1 (by decide +kernel) (by decide +kernel) (by decide +kernel) (of_decide_eq_true rfl) ?_
    refine lv_iconst (v := 0) hx hb dX5_startsStatement_66 zci_0 ?_
    have ho := Option.some.inj hfn
    subst ho
    exact zrz hx hb hr rfl hK hP hD hS hQ ⟨rfl, zB0⟩ hlocks dX5_startsStatement_67
  have hfn := (if_neg c_8).symm.trans hfn
  have oc_8 := zk_ne rfl (by decide +kernel : (7 : Int32).toInt = 7) c_8
  by_cases c_9 : p0 = 8
  · have hfn := (if_pos c_9).symm.trans hfn
    refine W.eq (g2 := F0 m 1 ls [.int 8]) (by rw [c_9]) ?_
    refine lv_tableIn (tgt := 66) (off := 65) hx hb dX5_startsStatement_1 (by decide +kernel) (by decide +kernel) (by decide +kernel) (of_decide_eq_true rfl) ?_
    refine lv_iconst (v := 0) hx hb dX5_startsStatement_66 zci_0 ?_
    have ho := Option.some.inj hfn
    subst ho
    exact zrz hx hb hr rfl hK hP hD hS hQ ⟨rfl, zB0⟩ hlocks dX5_startsStatement_67
  have hfn := (if_neg c_9).symm.trans hfn
  have oc_9 := zk_ne rfl (by decide +kernel : (8 : Int32).toInt = 8) c_9
  by_cases c_10 : p0 = 9
  · have hfn := (if_pos c_10).symm.trans hfn
    refine W.eq (g2 := F0 m 1 ls [.int 9]) (by rw [c_10]) ?_
    refine lv_tableIn (tgt := 64) (off := 63) hx hb dX5_startsStatement_1 (by decide +kernel) (by decide +kernel) (by decide +kernel) (of_decide_eq_true rfl) ?_
    refine lv_iconst (v := 1) hx hb dX5_startsStatement_64 zci_1 ?_
    have ho := Option.some.inj hfn
    subst ho
    exact zrz hx hb hr rfl hK hP hD hS hQ ⟨rfl, zB1⟩ hlocks dX5_startsStatement_65
  have hfn := (if_neg c_10).symm.trans hfn
  have oc_10 := zk_ne rfl (by decide +kernel : (9 : Int32).toInt = 9) c_10
  by_cases c_11 : p0 = 10
  · have hfn := (if_pos c_11).symm.trans hfn
    refine W.eq (g2 := F0 m 1 ls [.int 10]) (by rw [c_11]) ?_
    refine lv_tableIn (tgt := 64) (off := 63) hx hb dX5_startsStatement_1 (by decide +kernel) (by decide +kernel) (by decide +kernel) (of_decide_eq_true rfl) ?_
    refine lv_iconst (v := 1) hx hb dX5_startsStatement_64 zci_1 ?_
    have ho := Option.some.inj hfn
    subst ho
    exact zrz hx hb hr rfl hK hP hD hS hQ ⟨rfl, zB1⟩ hlocks dX5_startsStatement_65
  have hfn := (if_neg c_11).symm.trans hfn
  have oc_11 := zk_ne rfl (by decide +kernel : (10 : Int32).toInt = 10) c_11
  by_cases c_12 : p0 = 11
  · have hfn := (if_pos c_12).symm.trans hfn
    refine W.eq (g2 := F0 m 1 ls [.int 11]) (by rw [c_12]) ?_
    refine lv_tableIn (tgt := 64) (off := 63) hx hb dX5_startsStatement_1 (by decide +kernel) (by decide +kernel) (by decide +kernel) (of_decide_eq_true rfl) ?_
    refine lv_iconst (v := 1) hx hb dX5_startsStatement_64 zci_1 ?_
    have ho := Option.some.inj hfn
    subst ho
    exact zrz hx hb hr rfl hK hP hD hS hQ ⟨rfl, zB1⟩ hlocks dX5_startsStatement_65
  have hfn := (if_neg c_12).symm.trans hfn
  have oc_12 := zk_ne rfl (by decide +kernel : (11 : Int32).toInt = 11) c_12
  refine lv_tableOut (tgt := 66) hx hb dX5_startsStatement_1 (by omega) (of_decide_eq_true rfl) ?_
  refine lv_iconst (v := 0) hx hb dX5_startsStatement_66 zci_0 ?_
  have ho := Option.some.inj hfn
  subst ho
  exact zrz hx hb hr rfl hK hP hD hS hQ ⟨rfl, zB0⟩ hlocks dX5_startsStatement_67
theorem zn_X5_stopAt_X5 : ∀ w ∈ wsX50, w ∈ wsX5_stopAt := fun _ h => List.mem_cons_of_mem _ (List.mem_append_right _ h)
theorem zw_X5_stopAt_417 : Cond.fieldLink RX5 22 "ShortEnough$Parser" "faultKind" "I" ∈ wsX5_stopAt := List.mem_of_getElem? (i := 1) (by decide +kernel)
theorem zw_X5_stopAt_418 : Cond.fieldLink RX5 18 "ShortEnough$Parser" "faultPlace" "I" ∈ wsX5_stopAt := List.mem_of_getElem? (i := 2) (by decide +kernel)
set_option maxHeartbeats 4000000 in
set_option maxRecDepth 100000 in
theorem zf_X5_stopAt (l : Launch) (dC : Nat → ClassId) (dI : Nat → Nat → Nat) (h0 : Nat) (p1 : Int32) (p2 : Int32) (r0_0 : Nat) (v0_1 : Int32) (v0_2 : Int32) (v0_3 : Int32) (o : Int32 × Int32 × Int32) (hfn : fn_X5_stopAt p1 p2 = some o) (sz : Nat) : zMi l yX5_stopAt wsX5_stopAt ({ frames := 0, cells := 0, slots := 0, locals := 0 }) (dC, dI) vwCl [.ref h0, .int p1, .int p2] [zV5 h0 r0_0 v0_1 v0_2 v0_3] [] (fun r _ => r = o.1 ∧ narrow .boolean (.int o.1) = .int o.1) [zV5 h0 r0_0 v0_1 o.2.1 o.2.2] [] sz := by
  refine zgoi (cc := cX5_stopAt) (maxL := 3) (ret := (some .boolean)) (C0 := RX5) (lv0 := [(0, .ref h0), (1, .int p1), (2, .int p2)]) zpl_X5 rfl rfl rfl (Nat.le_of_ble_eq_true rfl) ?_
  intro p e s m below meth c A ls Q hx hb hr hts hown hlocks hml hP hK hD hA hS hl hQ
  unfold fn_X5_stopAt at hfn
  refine lv_aload_n hx hb dX5_stopAt_0 rfl (lv_at hl 0 rfl) ?_
  refine lv_iload_n hx hb dX5_stopAt_1 rfl (lv_at hl 1 rfl) ?_
  refine va_put (D := (dC, dI)) (ci := 5) (v := .int p1) (ty := .int) (C := RX5) (T := TX5) (N := 4) hx hb hts zn_X5_stopAt_X5 tyX5 tyX5_ok nmX5 hown hK hP hD hS 0 rfl rfl 2 (of_decide_eq_true rfl) (hts (.fieldLink RX5 22 "ShortEnough$Parser" "faultKind" "I") zw_X5_stopAt_417) (fun _ h9 => h9) rfl (tyX5_ok 2 (of_decide_eq_true rfl)) rfl rfl (Nat.le_of_ble_eq_true rfl) dX5_stopAt_2 (fun H locs hP hD hS => ?_)
  have hP : va_P (dC, dI) vwCl [zV5 h0 r0_0 v0_1 p1 v0_3] H := hP
  have hD := zDW hD hP rfl
  refine lv_aload_n hx hb dX5_stopAt_5 rfl (lv_at hl 0 rfl) ?_
  refine lv_iload_n hx hb dX5_stopAt_6 rfl (lv_at hl 2 rfl) ?_
  refine va_put (D := (dC, dI)) (ci := 5) (v := .int p2) (ty := .int) (C := RX5) (T := TX5) (N := 4) hx hb hts zn_X5_stopAt_X5 tyX5 tyX5_ok nmX5 hown hK hP hD hS 0 rfl rfl 3 (of_decide_eq_true rfl) (hts (.fieldLink RX5 18 "ShortEnough$Parser" "faultPlace" "I") zw_X5_stopAt_418) (fun _ h9 => h9) rfl (tyX5_ok 3 (of_decide_eq_true rfl)) rfl rfl (Nat.le_of_ble_eq_true rfl) dX5_stopAt_7 (fun H locs hP hD hS => ?_)
  have hP : va_P (dC, dI) vwCl [zV5 h0 r0_0 v0_1 p1 p2] H := hP
  have hD := zDW hD hP rfl
  refine lv_iconst (v := 0) hx hb dX5_stopAt_10 zci_0 ?_
  have ho := Option.some.inj hfn
  subst ho
  exact zrz hx hb hr rfl hK hP hD hS hQ ⟨rfl, zB0⟩ hlocks dX5_stopAt_11
theorem zn_X5_isFull_X9 : ∀ w ∈ wsX90, w ∈ wsX5_isFull := fun _ h => List.mem_cons_of_mem _ (List.mem_append_left _ (List.mem_append_right _ h))
theorem zw_X5_isFull_420 : Cond.fieldLink RX5 44 "ShortEnough$Task" "numbers" "LShortEnough$Numbers;" ∈ wsX5_isFull := List.mem_of_getElem? (i := 2) (by decide +kernel)
theorem zn_X5_isFull_X4 : ∀ w ∈ wsX40, w ∈ wsX5_isFull := fun _ h => List.mem_cons_of_mem _ (List.mem_append_right _ h)
theorem zw_X5_isFull_422 : Cond.fieldLink RX5 48 "ShortEnough$Numbers" "count" "I" ∈ wsX5_isFull := List.mem_of_getElem? (i := 3) (by decide +kernel)
theorem zw_X5_isFull_423 : Cond.fieldLink RX5 41 "ShortEnough$Task" "formats" "I" ∈ wsX5_isFull := List.mem_of_getElem? (i := 1) (by decide +kernel)
set_option maxHeartbeats 4000000 in
set_option maxRecDepth 100000 in
theorem zf_X5_isFull (l : Launch) (dC : Nat → ClassId) (dI : Nat → Nat → Nat) (h0 : Nat) (p1 : Int32) (v0_0 : Int32) (r0_1 : Nat) (r0_2 : Nat) (r0_3 : Nat) (r0_4 : Nat) (v0_5 : Int32) (r0_6 : Nat) (r0_7 : Nat) (r0_8 : Nat) (v1_0 : Int32) (v1_1 : Int32) (r1_2 : Nat) (r1_3 : Nat) (r1_4 : Nat) (r1_5 : Nat) (r1_6 : Nat) (r1_7 : Nat) (r1_8 : Nat) (r1_9 : Nat) (o : Int32) (hfn : fn_X5_isFull p1 v0_0 v1_0 = some o) (sz : Nat) : zMi l yX5_isFull wsX5_isFull ({ frames := 0, cells := 0, slots := 0, locals := 0 }) (dC, dI) vwCl [.ref h0, .int p1] [zV9 h0 v0_0 r0_1 r0_2 r0_3 r0_4 v0_5 r0_6 r0_7 r0_8, zV4 r0_6 v1_0 v1_1 r1_2 r1_3 r1_4 r1_5 r1_6 r1_7 r1_8 r1_9] [] (fun r _ => r = o ∧ narrow .boolean (.int o) = .int o) [zV9 h0 v0_0 r0_1 r0_2 r0_3 r0_4 v0_5 r0_6 r0_7 r0_8, zV4 r0_6 v1_0 v1_1 r1_2 r1_3 r1_4 r1_5 r1_6 r1_7 r1_8 r1_9] [] sz := by
  refine zgoi (cc := cX5_isFull) (maxL := 3) (ret := (some .boolean)) (C0 := RX5) (lv0 := [(0, .ref h0), (1, .int p1)]) zpl_X5 rfl rfl rfl (Nat.le_of_ble_eq_true rfl) ?_
  intro p e s m below meth c A ls Q hx hb hr hts hown hlocks hml hP hK hD hA hS hl hQ
  unfold fn_X5_isFull at hfn
  refine lv_iload_n hx hb dX5_isFull_0 rfl (lv_at hl 1 rfl) ?_
  refine lv_if_ne (tgt := 18) hx hb dX5_isFull_1 (of_decide_eq_true rfl) (fun c_1 => ?_) (fun c_1 => ?_)
  · have hfn := (if_neg c_1).symm.trans hfn
    refine lv_iload_n hx hb dX5_isFull_18 rfl (lv_at hl 1 rfl) ?_
    refine lv_iconst (v := 5) hx hb dX5_isFull_19 zci_5 ?_
    obtain ⟨j_2, ej_2, hfn⟩ := zj_g hfn
    have jp_2 : ∀ (s_2 : Int32) (H : Heap) (locs : List Loc) (ls : Array Slot), j_2 s_2 = some o → va_P (dC, dI) vwCl [zV9 h0 v0_0 r0_1 r0_2 r0_3 r0_4 v0_5 r0_6 r0_7 r0_8, zV4 r0_6 v1_0 v1_1 r1_2 r1_3 r1_4 r1_5 r1_6 r1_7 r1_8 r1_9] H → va_D A [zV9 h0 v0_0 r0_1 r0_2 r0_3 r0_4 v0_5 r0_6 r0_7 r0_8, zV4 r0_6 v1_0 v1_1 r1_2 r1_3 r1_4 r1_5 r1_6 r1_7 r1_8 r1_9] → va_S A s.heap H locs → lv_has ls 3 [(0, .ref h0)] → W p l e (headSpec wsX5_isFull ({ frames := 0, cells := 0, slots := 0, locals := 0 })).room s m ([.ref h0, .int p1] : List Value).toArray below meth c H locs 0 0 Q (F0 m 34 ls [.int s_2]) := by
      intro s_2 H locs ls hfn hP hD hS hl
      have hfn := zj_s ej_2 hfn
      refine lv_istore_n (lv' := [(2, .int s_2), (0, .ref h0)]) hx hb dX5_isFull_34 rfl hl (of_decide_eq_true rfl) rfl (fun ls hl => ?_)
      refine lv_iload_n hx hb dX5_isFull_35 rfl (lv_at hl 0 rfl) ?_
      refine lv_if_eq (tgt := 55) hx hb dX5_isFull_36 (of_decide_eq_true rfl) (fun c_3 => ?_) (fun c_3 => ?_)
      · have hfn := (if_pos c_3).symm.trans hfn
        refine lv_iconst (v := 0) hx hb dX5_isFull_55 zci_0 ?_
        have ho := Option.some.inj hfn
        subst ho
        exact zrz hx hb hr rfl hK hP hD hS hQ ⟨rfl, zB0⟩ hlocks dX5_isFull_56
      have hfn := (if_neg c_3).symm.trans hfn
      refine lv_aload_n hx hb dX5_isFull_39 rfl (lv_at hl 1 rfl) ?_
      refine va_get (D := (dC, dI)) (ci := 9) (v := .ref r0_6) (C := RX9) (T := TX9) (N := 9) hx hb hts zn_X5_isFull_X9 hown hK hP 0 rfl rfl 6 (of_decide_eq_true rfl) (hts (.fieldLink RX5 44 "ShortEnough$Task" "numbers" "LShortEnough$Numbers;") zw_X5_isFull_420) (fun _ h9 => h9) rfl dX5_isFull_40 ?_
      refine va_get (D := (dC, dI)) (ci := 4) (v := .int v1_0) (C := RX4) (T := TX4) (N := 10) hx hb hts zn_X5_isFull_X4 hown hK hP 1 rfl rfl 0 (of_decide_eq_true rfl) (hts (.fieldLink RX5 48 "ShortEnough$Numbers" "count" "I") zw_X5_isFull_422) (fun _ h9 => h9) rfl dX5_isFull_43 ?_
      refine lv_bipush (v := 14) hx hb dX5_isFull_46 zcb_14 ?_
      refine lv_icmp_lt (tgt := 55) hx hb dX5_isFull_48 (of_decide_eq_true rfl) (fun c_4 => ?_) (fun c_4 => ?_)
      · have hfn := (if_pos c_4).symm.trans hfn
        refine lv_iconst (v := 0) hx hb dX5_isFull_55 zci_0 ?_
        have ho := Option.some.inj hfn
        subst ho
        exact zrz hx hb hr rfl hK hP hD hS hQ ⟨rfl, zB0⟩ hlocks dX5_isFull_56
      have hfn := (if_neg c_4).symm.trans hfn
      refine lv_iconst (v := 1) hx hb dX5_isFull_51 zci_1 ?_
      refine lv_goto (tgt := 56) hx hb dX5_isFull_52 (of_decide_eq_true rfl) ?_
      have ho := Option.some.inj hfn
      subst ho
      exact zrz hx hb hr rfl hK hP hD hS hQ ⟨rfl, zB1⟩ hlocks dX5_isFull_56
    obtain ⟨j_5, ej_5, hfn⟩ := zj_g hfn
    have jp_5 : ∀ (s_5 : Unit) (H : Heap) (locs : List Loc) (ls : Array Slot), j_5 s_5 = some o → va_P (dC, dI) vwCl [zV9 h0 v0_0 r0_1 r0_2 r0_3 r0_4 v0_5 r0_6 r0_7 r0_8, zV4 r0_6 v1_0 v1_1 r1_2 r1_3 r1_4 r1_5 r1_6 r1_7 r1_8 r1_9] H → va_D A [zV9 h0 v0_0 r0_1 r0_2 r0_3 r0_4 v0_5 r0_6 r0_7 r0_8, zV4 r0_6 v1_0 v1_1 r1_2 r1_3 r1_4 r1_5 r1_6 r1_7 r1_8 r1_9] → va_S A s.heap H locs → lv_has ls 3 [(0, .ref h0)] → W p l e (headSpec wsX5_isFull ({ frames := 0, cells := 0, slots := 0, locals := 0 })).room s m ([.ref h0, .int p1] : List Value).toArray below meth c H locs 0 0 Q (F0 m 29 ls []) := by
      intro s_5 H locs ls hfn hP hD hS hl
      have hfn := zj_s ej_5 hfn
      refine lv_iconst (v := 1) hx hb dX5_isFull_29 zci_1 ?_
      refine lv_goto (tgt := 34) hx hb dX5_isFull_30 (of_decide_eq_true rfl) ?_
      exact jp_2 1 H locs ls hfn hP hD hS (lv_sub hl [0] rfl)
    refine lv_icmp_eq (tgt := 29) hx hb dX5_isFull_20 (of_decide_eq_true rfl) (fun c_6 => ?_) (fun c_6 => ?_)
    · have hfn := (if_pos c_6).symm.trans hfn
      exact jp_5 () s.heap [] ls hfn hP hD hS (lv_sub hl [0] rfl)
    have hfn := (if_neg c_6).symm.trans hfn
    refine lv_iload_n hx hb dX5_isFull_23 rfl (lv_at hl 1 rfl) ?_
    refine lv_bipush (v := 6) hx hb dX5_isFull_24 zcb_6 ?_
    refine lv_icmp_ne (tgt := 33) hx hb dX5_isFull_26 (of_decide_eq_true rfl) (fun c_7 => ?_) (fun c_7 => ?_)
    · have hfn := (if_neg c_7).symm.trans hfn
      refine lv_iconst (v := 0) hx hb dX5_isFull_33 zci_0 ?_
      exact jp_2 0 s.heap [] ls hfn hP hD hS (lv_sub hl [0] rfl)
    have hfn := (if_pos c_7).symm.trans hfn
    exact jp_5 () s.heap [] ls hfn hP hD hS (lv_sub hl [0] rfl)
  have hfn := (if_pos c_1).symm.trans hfn
  refine lv_aload_n hx hb dX5_isFull_4 rfl (lv_at hl 0 rfl) ?_
  refine va_get (D := (dC, dI)) (ci := 9) (v := .int v0_0) (C := RX9) (T := TX9) (N := 9) hx hb hts zn_X5_isFull_X9 hown hK hP 0 rfl rfl 0 (of_decide_eq_true rfl) (hts (.fieldLink RX5 41 "ShortEnough$Task" "formats" "I") zw_X5_isFull_423) (fun _ h9 => h9) rfl dX5_isFull_5 ?_
  refine lv_iconst (v := 4) hx hb dX5_isFull_8 zci_4 ?_
  refine lv_icmp_lt (tgt := 16) hx hb dX5_isFull_9 (of_decide_eq_true rfl) (fun c_8 => ?_) (fun c_8 => ?_)
  · have hfn := (if_pos c_8).symm.trans hfn
    refine lv_iconst (v := 0) hx hb dX5_isFull_16 zci_0 ?_
    have ho := Option.some.inj hfn
    subst ho
    exact zrz hx hb hr rfl hK hP hD hS hQ ⟨rfl, zB0⟩ hlocks dX5_isFull_17
  have hfn := (if_neg c_8).symm.trans hfn
  refine lv_iconst (v := 1) hx hb dX5_isFull_12 zci_1 ?_
  refine lv_goto (tgt := 17) hx hb dX5_isFull_13 (of_decide_eq_true rfl) ?_
  have ho := Option.some.inj hfn
  subst ho
  exact zrz hx hb hr rfl hK hP hD hS hQ ⟨rfl, zB1⟩ hlocks dX5_isFull_17
theorem zn_X10_isName_X10 : ∀ w ∈ wsX100, w ∈ wsX10_isName := fun _ h => List.mem_cons_of_mem _ (List.mem_append_right _ h)
theorem zw_X10_isName_427 : Cond.fieldLink RX10 46 "ShortEnough$Words" "kind" "I" ∈ wsX10_isName := List.mem_of_getElem? (i := 1) (by decide +kernel)
theorem zw_X10_isName_428 : Cond.fieldLink RX10 70 "ShortEnough$Words" "own" "I" ∈ wsX10_isName := List.mem_of_getElem? (i := 2) (by decide +kernel)
set_option maxHeartbeats 4000000 in
set_option maxRecDepth 100000 in
theorem zf_X10_isName (l : Launch) (dC : Nat → ClassId) (dI : Nat → Nat → Nat) (h0 : Nat) (r0_0 : Nat) (r0_1 : Nat) (v0_2 : Int32) (v0_3 : Int32) (v0_4 : Int32) (v0_5 : Int32) (v0_6 : Int32) (v0_7 : Int32) (o : Int32) (hfn : fn_X10_isName v0_4 v0_7 = some o) (sz : Nat) : zMi l yX10_isName wsX10_isName ({ frames := 0, cells := 0, slots := 0, locals := 0 }) (dC, dI) vwCl [.ref h0] [zV10 h0 r0_0 r0_1 v0_2 v0_3 v0_4 v0_5 v0_6 v0_7] [] (fun r _ => r = o ∧ narrow .boolean (.int o) = .int o) [zV10 h0 r0_0 r0_1 v0_2 v0_3 v0_4 v0_5 v0_6 v0_7] [] sz := by
  refine zgoi (cc := cX10_isName) (maxL := 1) (ret := (some .boolean)) (C0 := RX10) (lv0 := [(0, .ref h0)]) zpl_X10 rfl rfl rfl (Nat.le_of_ble_eq_true rfl) ?_
  intro p e s m below meth c A ls Q hx hb hr hts hown hlocks hml hP hK hD hA hS hl hQ
  unfold fn_X10_isName at hfn
  refine lv_aload_n hx hb dX10_isName_0 rfl (lv_at hl 0 rfl) ?_
  refine va_get (D := (dC, dI)) (ci := 10) (v := .int v0_4) (C := RX10) (T := TX10) (N := 8) hx hb hts zn_X10_isName_X10 hown hK hP 0 rfl rfl 4 (of_decide_eq_true rfl) (hts (.fieldLink RX10 46 "ShortEnough$Words" "kind" "I") zw_X10_isName_427) (fun _ h9 => h9) rfl dX10_isName_1 ?_
  refine lv_iconst (v := 1) hx hb dX10_isName_4 zci_1 ?_
  refine lv_icmp_ne (tgt := 20) hx hb dX10_isName_5 (of_decide_eq_true rfl) (fun c_1 => ?_) (fun c_1 => ?_)
  · have hfn := (if_neg c_1).symm.trans hfn
    refine lv_iconst (v := 0) hx hb dX10_isName_20 zci_0 ?_
    have ho := Option.some.inj hfn
    subst ho
    exact zrz hx hb hr rfl hK hP hD hS hQ ⟨rfl, zB0⟩ hlocks dX10_isName_21
  have hfn := (if_pos c_1).symm.trans hfn
  refine lv_aload_n hx hb dX10_isName_8 rfl (lv_at hl 0 rfl) ?_
  refine va_get (D := (dC, dI)) (ci := 10) (v := .int v0_7) (C := RX10) (T := TX10) (N := 8) hx hb hts zn_X10_isName_X10 hown hK hP 0 rfl rfl 7 (of_decide_eq_true rfl) (hts (.fieldLink RX10 70 "ShortEnough$Words" "own" "I") zw_X10_isName_428) (fun _ h9 => h9) rfl dX10_isName_9 ?_
  refine lv_iconst (v := (-1)) hx hb dX10_isName_12 zci_m1 ?_
  refine lv_icmp_ne (tgt := 20) hx hb dX10_isName_13 (of_decide_eq_true rfl) (fun c_2 => ?_) (fun c_2 => ?_)
  · have hfn := (if_neg c_2).symm.trans hfn
    refine lv_iconst (v := 0) hx hb dX10_isName_20 zci_0 ?_
    have ho := Option.some.inj hfn
    subst ho
    exact zrz hx hb hr rfl hK hP hD hS hQ ⟨rfl, zB0⟩ hlocks dX10_isName_21
  have hfn := (if_pos c_2).symm.trans hfn
  refine lv_iconst (v := 1) hx hb dX10_isName_16 zci_1 ?_
  refine lv_goto (tgt := 21) hx hb dX10_isName_17 (of_decide_eq_true rfl) ?_
  have ho := Option.some.inj hfn
  subst ho
  exact zrz hx hb hr rfl hK hP hD hS hQ ⟨rfl, zB1⟩ hlocks dX10_isName_21
theorem zn_X9_findFormat_X9 : ∀ w ∈ wsX90, w ∈ wsX9_findFormat := fun _ h => List.mem_cons_of_mem _ (List.mem_append_right _ h)
theorem zw_X9_findFormat_432 : Cond.fieldLink RX9 45 "ShortEnough$Task" "formats" "I" ∈ wsX9_findFormat := List.mem_of_getElem? (i := 1) (by decide +kernel)
theorem zw_X9_findFormat_433 : Cond.fieldLink RX9 9 "ShortEnough$Task" "formatName" "[I" ∈ wsX9_findFormat := List.mem_of_getElem? (i := 2) (by decide +kernel)
set_option maxHeartbeats 4000000 in
set_option maxRecDepth 100000 in
theorem zf_X9_findFormat (l : Launch) (dC : Nat → ClassId) (dI : Nat → Nat → Nat) (h0 : Nat) (p1 : Int32) (v0_0 : Int32) (r0_1 : Nat) (r0_2 : Nat) (r0_3 : Nat) (r0_4 : Nat) (v0_5 : Int32) (r0_6 : Nat) (r0_7 : Nat) (r0_8 : Nat) (k1 : Nat) (f1 : Nat → Int32) (o : Int32) (hfn : fn_X9_findFormat p1 v0_0 f1 = some o) (sz : Nat) : zMi l yX9_findFormat wsX9_findFormat ({ frames := 0, cells := 0, slots := 0, locals := 0 }) (dC, dI) vwCl [.ref h0, .int p1] [zV9 h0 v0_0 r0_1 r0_2 r0_3 r0_4 v0_5 r0_6 r0_7 r0_8, zVi r0_1 k1 4 f1] [(k1, .int)] (fun r _ => r = o) [zV9 h0 v0_0 r0_1 r0_2 r0_3 r0_4 v0_5 r0_6 r0_7 r0_8, zVi r0_1 k1 4 f1] [(k1, .int)] sz := by
  refine zgoi (cc := cX9_findFormat) (maxL := 3) (ret := (some .int)) (C0 := RX9) (lv0 := [(0, .ref h0), (1, .int p1)]) zpl_X9 rfl rfl rfl (Nat.le_of_ble_eq_true rfl) ?_
  intro p e s m below meth c A ls Q hx hb hr hts hown hlocks hml hP hK hD hA hS hl hQ
  unfold fn_X9_findFormat at hfn
  refine lv_iconst (v := 0) hx hb dX9_findFormat_0 zci_0 ?_
  refine lv_istore_n (lv' := [(2, .int 0), (0, .ref h0), (1, .int p1)]) hx hb dX9_findFormat_1 rfl hl (of_decide_eq_true rfl) rfl (fun ls hl => ?_)
  obtain ⟨bd_1, ebd_1, hfn⟩ := zl_g hfn
  have lp_1 : ∀ (n : Nat) (s_1 : Int32) (H : Heap) (locs : List Loc) (ls : Array Slot), zl bd_1 n s_1 = some o → va_P (dC, dI) vwCl [zV9 h0 v0_0 r0_1 r0_2 r0_3 r0_4 v0_5 r0_6 r0_7 r0_8, zVi r0_1 k1 4 f1] H → va_D A [zV9 h0 v0_0 r0_1 r0_2 r0_3 r0_4 v0_5 r0_6 r0_7 r0_8, zVi r0_1 k1 4 f1] → va_S A s.heap H locs → lv_has ls 3 [(2, .int s_1), (0, .ref h0), (1, .int p1)] → W p l e (headSpec wsX9_findFormat ({ frames := 0, cells := 0, slots := 0, locals := 0 })).room s m ([.ref h0, .int p1] : List Value).toArray below meth c H locs 0 0 Q (F0 m 2 ls []) := by
    intro n
    induction n with
    | zero => exact fun _ _ _ _ hfn => (zl_0 hfn).elim
    | succ n ih_1 =>
      intro s_1 H locs ls hfn hP hD hS hl
      have hfn := zl_s ebd_1 hfn
      refine lv_iload_n hx hb dX9_findFormat_2 rfl (lv_at hl 0 rfl) ?_
      refine lv_aload_n hx hb dX9_findFormat_3 rfl (lv_at hl 1 rfl) ?_
      refine va_get (D := (dC, dI)) (ci := 9) (v := .int v0_0) (C := RX9) (T := TX9) (N := 9) hx hb hts zn_X9_findFormat_X9 hown hK hP 0 rfl rfl 0 (of_decide_eq_true rfl) (hts (.fieldLink RX9 45 "ShortEnough$Task" "formats" "I") zw_X9_findFormat_432) (fun _ h9 => h9) rfl dX9_findFormat_4 ?_
      refine lv_icmp_ge (tgt := 28) hx hb dX9_findFormat_7 (of_decide_eq_true rfl) (fun c_2 => ?_) (fun c_2 => ?_)
      · have hfn := (if_pos c_2).symm.trans hfn
        refine lv_iconst (v := (-1)) hx hb dX9_findFormat_28 zci_m1 ?_
        have ho := Option.some.inj hfn
        subst ho
        exact zri hx hb hr hK hP hD hS hQ rfl hlocks dX9_findFormat_29
      have hfn := (if_neg c_2).symm.trans hfn
      refine lv_aload_n hx hb dX9_findFormat_10 rfl (lv_at hl 1 rfl) ?_
      refine va_get (D := (dC, dI)) (ci := 9) (v := .ref r0_1) (C := RX9) (T := TX9) (N := 9) hx hb hts zn_X9_findFormat_X9 hown hK hP 0 rfl rfl 1 (of_decide_eq_true rfl) (hts (.fieldLink RX9 9 "ShortEnough$Task" "formatName" "[I") zw_X9_findFormat_433) (fun _ h9 => h9) rfl dX9_findFormat_11 ?_
      refine lv_iload_n hx hb dX9_findFormat_14 rfl (lv_at hl 0 rfl) ?_
      obtain ⟨h_3, hfn⟩ := zg_s hfn
      refine va_iald hx hb hK hP 1 0 rfl rfl h_3 dX9_findFormat_15 ?_
      refine lv_iload_n hx hb dX9_findFormat_16 rfl (lv_at hl 2 rfl) ?_
      refine lv_icmp_ne (tgt := 22) hx hb dX9_findFormat_17 (of_decide_eq_true rfl) (fun c_4 => ?_) (fun c_4 => ?_)
      · have hfn := (if_neg c_4).symm.trans hfn
        refine lv_iinc (v := (s_1 + 1)) (lv' := [(2, .int (s_1 + 1)), (0, .ref h0), (1, .int p1)]) hx hb dX9_findFormat_22 hl (k := 0) rfl rfl (of_decide_eq_true rfl) rfl (fun ls hl => ?_)
        refine lv_goto (tgt := 2) hx hb dX9_findFormat_25 (of_decide_eq_true rfl) ?_
        exact ih_1 (s_1 + 1) H locs ls hfn hP hD hS (lv_sub hl [0, 1, 2] rfl)
      have hfn := (if_pos c_4).symm.trans hfn
      refine lv_iload_n hx hb dX9_findFormat_20 rfl (lv_at hl 0 rfl) ?_
      have ho := Option.some.inj hfn
      subst ho
      exact zri hx hb hr hK hP hD hS hQ rfl hlocks dX9_findFormat_21
  exact lp_1 _ 0 s.heap [] ls hfn hP hD hS (lv_sub hl [0, 1, 2] rfl)
theorem zn_X5_readNewName_X5 : ∀ w ∈ wsX50, w ∈ wsX5_readNewName := fun _ h => List.mem_cons_of_mem _ (List.mem_append_left _ (List.mem_append_left _ (List.mem_append_left _ (List.mem_append_right _ h))))
theorem zw_X5_readNewName_425 : Cond.fieldLink RX5 12 "ShortEnough$Parser" "words" "LShortEnough$Words;" ∈ wsX5_readNewName := List.mem_of_getElem? (i := 1) (by decide +kernel)
theorem zn_X5_readNewName_X10 : ∀ w ∈ wsX100, w ∈ wsX5_readNewName := fun _ h => List.mem_cons_of_mem _ (List.mem_append_left _ (List.mem_append_left _ (List.mem_append_right _ h)))
theorem zw_X5_readNewName_430 : Cond.fieldLink RX5 138 "ShortEnough$Words" "value" "I" ∈ wsX5_readNewName := List.mem_of_getElem? (i := 3) (by decide +kernel)
theorem zw_X5_readNewName_434 : Cond.fieldLink RX5 64 "ShortEnough$Words" "start" "I" ∈ wsX5_readNewName := List.mem_of_getElem? (i := 2) (by decide +kernel)
theorem zn_X5_readNewName_X9 : ∀ w ∈ wsX90, w ∈ wsX5_readNewName := fun _ h => List.mem_cons_of_mem _ (List.mem_append_left _ (List.mem_append_right _ h))
theorem zw_X5_readNewName_436 : Cond.fieldLink RX5 44 "ShortEnough$Task" "numbers" "LShortEnough$Numbers;" ∈ wsX5_readNewName := List.mem_of_getElem? (i := 4) (by decide +kernel)
theorem zw_X5_readNewName_437 : Cond.fieldLink RX5 102 "ShortEnough$Parser" "got" "I" ∈ wsX5_readNewName := List.mem_of_getElem? (i := 5) (by decide +kernel)
set_option maxHeartbeats 4000000 in
set_option maxRecDepth 100000 in
theorem zf_X5_readNewName (l : Launch) (dC : Nat → ClassId) (dI : Nat → Nat → Nat) (h0 : Nat) (h1 : Nat) (r0_0 : Nat) (v0_1 : Int32) (v0_2 : Int32) (v0_3 : Int32) (r1_0 : Nat) (r1_1 : Nat) (v1_2 : Int32) (v1_3 : Int32) (v1_4 : Int32) (v1_5 : Int32) (v1_6 : Int32) (v1_7 : Int32) (v2_0 : Int32) (r2_1 : Nat) (r2_2 : Nat) (r2_3 : Nat) (r2_4 : Nat) (v2_5 : Int32) (r2_6 : Nat) (r2_7 : Nat) (r2_8 : Nat) (k3 : Nat) (f3 : Nat → Int32) (v4_0 : Int32) (v4_1 : Int32) (r4_2 : Nat) (r4_3 : Nat) (r4_4 : Nat) (r4_5 : Nat) (r4_6 : Nat) (r4_7 : Nat) (r4_8 : Nat) (r4_9 : Nat) (k5 : Nat) (f5 : Nat → Int32) (k6 : Nat) (f6 : Nat → Int32) (k7 : Nat) (f7 : Nat → Int32) (o : Int32 × Int32 × Int32 × Int32 × Int32 × Int32 × Int32 × Int32 × Int32) (hfn : fn_X5_readNewName v0_1 v0_2 v0_3 v1_2 v1_3 v1_4 v1_5 v1_6 v1_7 v2_0 f3 v4_0 f5 f6 f7 = some o) (sz : Nat) : zMi l yX5_readNewName wsX5_readNewName ({ frames := 2, cells := 0, slots := 0, locals := 46 }) (dC, dI) vwCl [.ref h0, .ref h1] [zV5 h0 r0_0 v0_1 v0_2 v0_3, zV10 r0_0 r1_0 r1_1 v1_2 v1_3 v1_4 v1_5 v1_6 v1_7, zV9 h1 v2_0 r2_1 r2_2 r2_3 r2_4 v2_5 r2_6 r2_7 r2_8, zVi r2_1 k3 4 f3, zV4 r2_6 v4_0 v4_1 r4_2 r4_3 r4_4 r4_5 r4_6 r4_7 r4_8 r4_9, zVi r4_2 k5 14 f5, zVi r1_1 k6 1200 f6, zVi r1_0 k7 13 f7] [(k3, .int), (k5, .int), (k6, .byte), (k7, .int)] (fun r _ => r = o.1 ∧ narrow .boolean (.int o.1) = .int o.1) [zV5 h0 r0_0 o.2.1 o.2.2.1 o.2.2.2.1, zV10 r0_0 r1_0 r1_1 v1_2 o.2.2.2.2.1 o.2.2.2.2.2.1 o.2.2.2.2.2.2.1 o.2.2.2.2.2.2.2.1 o.2.2.2.2.2.2.2.2, zV9 h1 v2_0 r2_1 r2_2 r2_3 r2_4 v2_5 r2_6 r2_7 r2_8, zVi r2_1 k3 4 f3, zV4 r2_6 v4_0 v4_1 r4_2 r4_3 r4_4 r4_5 r4_6 r4_7 r4_8 r4_9, zVi r4_2 k5 14 f5, zVi r1_1 k6 1200 f6, zVi r1_0 k7 13 f7] [(k3, .int), (k5, .int), (k6, .byte), (k7, .int)] sz := by
  refine zgoi (cc := cX5_readNewName) (maxL := 3) (ret := (some .boolean)) (C0 := RX5) (lv0 := [(0, .ref h0), (1, .ref h1)]) zpl_X5 rfl rfl rfl (Nat.le_of_ble_eq_true rfl) ?_
  intro p e s m below meth c A ls Q hx hb hr hts hown hlocks hml hP hK hD hA hS hl hQ
  unfold fn_X5_readNewName at hfn
  refine lv_aload_n hx hb dX5_readNewName_0 rfl (lv_at hl 0 rfl) ?_
  refine va_get (D := (dC, dI)) (ci := 5) (v := .ref r0_0) (C := RX5) (T := TX5) (N := 4) hx hb hts zn_X5_readNewName_X5 hown hK hP 0 rfl rfl 0 (of_decide_eq_true rfl) (hts (.fieldLink RX5 12 "ShortEnough$Parser" "words" "LShortEnough$Words;") zw_X5_readNewName_425) (fun _ h9 => h9) rfl dX5_readNewName_1 ?_
  obtain ⟨o_1, hqo_1, hfn⟩ := zb_s hfn
  refine zcVb (ci := 10) (rest := []) (pc' := 7) (ws' := [zV5 h0 r0_0 v0_1 v0_2 v0_3, zV10 r0_0 r1_0 r1_1 v1_2 v1_3 v1_4 v1_5 v1_6 v1_7, zV9 h1 v2_0 r2_1 r2_2 r2_3 r2_4 v2_5 r2_6 r2_7 r2_8, zVi r2_1 k3 4 f3, zV4 r2_6 v4_0 v4_1 r4_2 r4_3 r4_4 r4_5 r4_6 r4_7 r4_8 r4_9, zVi r4_2 k5 14 f5, zVi r1_1 k6 1200 f6, zVi r1_0 k7 13 f7]) hP hK hD hS hA ⟨hx, hb, hml, hown, hts⟩ (zf_X10_isName l dC dI r0_0 r1_0 r1_1 v1_2 v1_3 v1_4 v1_5 v1_6 v1_7 o_1 hqo_1 s.heap.size) (cwV 0 hts gX5_readNewName_X10_isName rfl rfl rfl zhd_X10_isName ⟨Nat.le_of_ble_eq_true rfl, Nat.le_of_ble_eq_true rfl⟩) [1] rfl (of_decide_eq_true rfl) [] rfl rfl rfl rfl hl.1 rfl (Nat.le_of_ble_eq_true rfl) dX5_readNewName_4 ⟨Nat.le_of_ble_eq_true rfl, Nat.le_of_ble_eq_true rfl⟩ [none, some 0] (of_decide_eq_true rfl) (of_decide_eq_true rfl) rfl rfl rfl (fun H locs hw_4n hP hD hS => ?_)
  refine lv_if_ne (tgt := 23) hx hb dX5_readNewName_7 (of_decide_eq_true rfl) (fun c_5 => ?_) (fun c_5 => ?_)
  · have hfn := (if_neg c_5).symm.trans hfn
    refine lv_aload_n hx hb dX5_readNewName_23 rfl (lv_at hl 0 rfl) ?_
    refine va_get (D := (dC, dI)) (ci := 5) (v := .ref r0_0) (C := RX5) (T := TX5) (N := 4) hx hb hts zn_X5_readNewName_X5 hown hK hP 0 rfl rfl 0 (of_decide_eq_true rfl) (hts (.fieldLink RX5 12 "ShortEnough$Parser" "words" "LShortEnough$Words;") zw_X5_readNewName_425) (fun _ h9 => h9) rfl dX5_readNewName_24 ?_
    refine va_get (D := (dC, dI)) (ci := 10) (v := .int v1_6) (C := RX10) (T := TX10) (N := 8) hx hb hts zn_X5_readNewName_X10 hown hK hP 1 rfl rfl 6 (of_decide_eq_true rfl) (hts (.fieldLink RX5 138 "ShortEnough$Words" "value" "I") zw_X5_readNewName_430) (fun _ h9 => h9) rfl dX5_readNewName_27 ?_
    refine lv_istore_n (lv' := [(2, .int v1_6), (0, .ref h0), (1, .ref h1)]) hx hb dX5_readNewName_30 rfl hl (of_decide_eq_true rfl) rfl (fun ls hl => ?_)
    refine lv_aload_n hx hb dX5_readNewName_31 rfl (lv_at hl 2 rfl) ?_
    refine lv_iload_n hx hb dX5_readNewName_32 rfl (lv_at hl 0 rfl) ?_
    obtain ⟨o_6, hqo_6, hfn⟩ := zb_s hfn
    refine zcVi (ci := 9) (rest := []) (pc' := 36) (ws' := [zV5 h0 r0_0 v0_1 v0_2 v0_3, zV10 r0_0 r1_0 r1_1 v1_2 v1_3 v1_4 v1_5 v1_6 v1_7, zV9 h1 v2_0 r2_1 r2_2 r2_3 r2_4 v2_5 r2_6 r2_7 r2_8, zVi r2_1 k3 4 f3, zV4 r2_6 v4_0 v4_1 r4_2 r4_3 r4_4 r4_5 r4_6 r4_7 r4_8 r4_9, zVi r4_2 k5 14 f5, zVi r1_1 k6 1200 f6, zVi r1_0 k7 13 f7]) hP hK hD hS hA ⟨hx, hb, hml, hown, hts⟩ (zf_X9_findFormat l dC dI h1 v1_6 v2_0 r2_1 r2_2 r2_3 r2_4 v2_5 r2_6 r2_7 r2_8 k3 f3 o_6 hqo_6 H.size) (cwV 1 hts gX5_readNewName_X9_findFormat rfl rfl rfl zhd_X9_findFormat ⟨Nat.le_of_ble_eq_true rfl, Nat.le_of_ble_eq_true rfl⟩) [2, 3] rfl (of_decide_eq_true rfl) [0] rfl rfl rfl rfl hl.1 rfl (Nat.le_of_ble_eq_true rfl) dX5_readNewName_33 ⟨Nat.le_of_ble_eq_true rfl, Nat.le_of_ble_eq_true rfl⟩ [none, none, some 0, some 1] (of_decide_eq_true rfl) (of_decide_eq_true rfl) rfl rfl rfl (fun H locs hP hD hS => ?_)
    refine lv_iconst (v := (-1)) hx hb dX5_readNewName_36 zci_m1 ?_
    refine lv_icmp_ne (tgt := 52) hx hb dX5_readNewName_37 (of_decide_eq_true rfl) (fun c_10 => ?_) (fun c_10 => ?_)
    · have hfn := (if_neg c_10).symm.trans hfn
      refine lv_aload_n hx hb dX5_readNewName_52 rfl (lv_at hl 1 rfl) ?_
      refine lv_iconst (v := 3) hx hb dX5_readNewName_53 zci_3 ?_
      refine lv_aload_n hx hb dX5_readNewName_54 rfl (lv_at hl 1 rfl) ?_
      refine va_get (D := (dC, dI)) (ci := 5) (v := .ref r0_0) (C := RX5) (T := TX5) (N := 4) hx hb hts zn_X5_readNewName_X5 hown hK hP 0 rfl rfl 0 (of_decide_eq_true rfl) (hts (.fieldLink RX5 12 "ShortEnough$Parser" "words" "LShortEnough$Words;") zw_X5_readNewName_425) (fun _ h9 => h9) rfl dX5_readNewName_55 ?_
      refine va_get (D := (dC, dI)) (ci := 10) (v := .int v1_5) (C := RX10) (T := TX10) (N := 8) hx hb hts zn_X5_readNewName_X10 hown hK hP 1 rfl rfl 5 (of_decide_eq_true rfl) (hts (.fieldLink RX5 64 "ShortEnough$Words" "start" "I") zw_X5_readNewName_434) (fun _ h9 => h9) rfl dX5_readNewName_58 ?_
      obtain ⟨o_11, hqo_11, hfn⟩ := zb_s hfn
      refine zcVb (ci := 5) (rest := []) (pc' := 64) (ws' := [zV5 h0 r0_0 v0_1 o_11.2.1 o_11.2.2, zV10 r0_0 r1_0 r1_1 v1_2 v1_3 v1_4 v1_5 v1_6 v1_7, zV9 h1 v2_0 r2_1 r2_2 r2_3 r2_4 v2_5 r2_6 r2_7 r2_8, zVi r2_1 k3 4 f3, zV4 r2_6 v4_0 v4_1 r4_2 r4_3 r4_4 r4_5 r4_6 r4_7 r4_8 r4_9, zVi r4_2 k5 14 f5, zVi r1_1 k6 1200 f6, zVi r1_0 k7 13 f7]) hP hK hD hS hA ⟨hx, hb, hml, hown, hts⟩ (zf_X5_stopAt l dC dI h0 3 v1_5 r0_0 v0_1 v0_2 v0_3 o_11 hqo_11 H.size) (cwV 2 hts gX5_readNewName_X5_stopAt rfl rfl rfl zhd_X5_stopAt ⟨Nat.le_of_ble_eq_true rfl, Nat.le_of_ble_eq_true rfl⟩) [0] rfl (of_decide_eq_true rfl) [] rfl rfl rfl rfl hl.1 rfl (Nat.le_of_ble_eq_true rfl) dX5_readNewName_61 ⟨Nat.le_of_ble_eq_true rfl, Nat.le_of_ble_eq_true rfl⟩ [some 0] (of_decide_eq_true rfl) (of_decide_eq_true rfl) rfl rfl rfl (fun H locs hw_14n hP hD hS => ?_)
      have ho := Option.some.inj hfn
      subst ho
      exact zrz hx hb hr hw_14n hK hP hD hS hQ ⟨rfl, hw_14n⟩ hlocks dX5_readNewName_64
    have hfn := (if_pos c_10).symm.trans hfn
    refine lv_aload_n hx hb dX5_readNewName_40 rfl (lv_at hl 2 rfl) ?_
    refine va_get (D := (dC, dI)) (ci := 9) (v := .ref r2_6) (C := RX9) (T := TX9) (N := 9) hx hb hts zn_X5_readNewName_X9 hown hK hP 2 rfl rfl 6 (of_decide_eq_true rfl) (hts (.fieldLink RX5 44 "ShortEnough$Task" "numbers" "LShortEnough$Numbers;") zw_X5_readNewName_436) (fun _ h9 => h9) rfl dX5_readNewName_41 ?_
    refine lv_iload_n hx hb dX5_readNewName_44 rfl (lv_at hl 0 rfl) ?_
    obtain ⟨o_15, hqo_15, hfn⟩ := zb_s hfn
    refine zcVi (ci := 4) (rest := []) (pc' := 48) (ws' := [zV5 h0 r0_0 v0_1 v0_2 v0_3, zV10 r0_0 r1_0 r1_1 v1_2 v1_3 v1_4 v1_5 v1_6 v1_7, zV9 h1 v2_0 r2_1 r2_2 r2_3 r2_4 v2_5 r2_6 r2_7 r2_8, zVi r2_1 k3 4 f3, zV4 r2_6 v4_0 v4_1 r4_2 r4_3 r4_4 r4_5 r4_6 r4_7 r4_8 r4_9, zVi r4_2 k5 14 f5, zVi r1_1 k6 1200 f6, zVi r1_0 k7 13 f7]) hP hK hD hS hA ⟨hx, hb, hml, hown, hts⟩ (zf_X4_find l dC dI r2_6 v1_6 v4_0 v4_1 r4_2 r4_3 r4_4 r4_5 r4_6 r4_7 r4_8 r4_9 k5 f5 o_15 hqo_15 H.size) (cwV 1 hts gX5_readNewName_X4_find rfl rfl rfl zhd_X4_find ⟨Nat.le_of_ble_eq_true rfl, Nat.le_of_ble_eq_true rfl⟩) [4, 5] rfl (of_decide_eq_true rfl) [1] rfl rfl rfl rfl hl.1 rfl (Nat.le_of_ble_eq_true rfl) dX5_readNewName_45 ⟨Nat.le_of_ble_eq_true rfl, Nat.le_of_ble_eq_true rfl⟩ [none, none, none, none, some 0, some 1] (of_decide_eq_true rfl) (of_decide_eq_true rfl) rfl rfl rfl (fun H locs hP hD hS => ?_)
    refine lv_iconst (v := (-1)) hx hb dX5_readNewName_48 zci_m1 ?_
    refine lv_icmp_eq (tgt := 65) hx hb dX5_readNewName_49 (of_decide_eq_true rfl) (fun c_19 => ?_) (fun c_19 => ?_)
    · have hfn := (if_pos c_19).symm.trans hfn
      refine lv_aload_n hx hb dX5_readNewName_65 rfl (lv_at hl 1 rfl) ?_
      refine lv_iload_n hx hb dX5_readNewName_66 rfl (lv_at hl 0 rfl) ?_
      refine va_put (D := (dC, dI)) (ci := 5) (v := .int v1_6) (ty := .int) (C := RX5) (T := TX5) (N := 4) hx hb hts zn_X5_readNewName_X5 tyX5 tyX5_ok nmX5 hown hK hP hD hS 0 rfl rfl 1 (of_decide_eq_true rfl) (hts (.fieldLink RX5 102 "ShortEnough$Parser" "got" "I") zw_X5_readNewName_437) (fun _ h9 => h9) rfl (tyX5_ok 1 (of_decide_eq_true rfl)) rfl rfl (Nat.le_of_ble_eq_true rfl) dX5_readNewName_67 (fun H locs hP hD hS => ?_)
      have hP : va_P (dC, dI) vwCl [zV5 h0 r0_0 v1_6 v0_2 v0_3, zV10 r0_0 r1_0 r1_1 v1_2 v1_3 v1_4 v1_5 v1_6 v1_7, zV9 h1 v2_0 r2_1 r2_2 r2_3 r2_4 v2_5 r2_6 r2_7 r2_8, zVi r2_1 k3 4 f3, zV4 r2_6 v4_0 v4_1 r4_2 r4_3 r4_4 r4_5 r4_6 r4_7 r4_8 r4_9, zVi r4_2 k5 14 f5, zVi r1_1 k6 1200 f6, zVi r1_0 k7 13 f7] H := hP
      have hD := zDW hD hP rfl
      refine lv_aload_n hx hb dX5_readNewName_70 rfl (lv_at hl 1 rfl) ?_
      refine va_get (D := (dC, dI)) (ci := 5) (v := .ref r0_0) (C := RX5) (T := TX5) (N := 4) hx hb hts zn_X5_readNewName_X5 hown hK hP 0 rfl rfl 0 (of_decide_eq_true rfl) (hts (.fieldLink RX5 12 "ShortEnough$Parser" "words" "LShortEnough$Words;") zw_X5_readNewName_425) (fun _ h9 => h9) rfl dX5_readNewName_71 ?_
      obtain ⟨o_20, hqo_20, hfn⟩ := zb_s hfn
      refine zcVv (ci := 10) (rest := []) (pc' := 77) (ws' := [zV5 h0 r0_0 v1_6 v0_2 v0_3, zV10 r0_0 r1_0 r1_1 v1_2 o_20.1 o_20.2.1 o_20.2.2.1 o_20.2.2.2.1 o_20.2.2.2.2, zV9 h1 v2_0 r2_1 r2_2 r2_3 r2_4 v2_5 r2_6 r2_7 r2_8, zVi r2_1 k3 4 f3, zV4 r2_6 v4_0 v4_1 r4_2 r4_3 r4_4 r4_5 r4_6 r4_7 r4_8 r4_9, zVi r4_2 k5 14 f5, zVi r1_1 k6 1200 f6, zVi r1_0 k7 13 f7]) hP hK hD hS hA ⟨hx, hb, hml, hown, hts⟩ (zf_X10_advance l dC dI r0_0 r1_0 r1_1 v1_2 v1_3 v1_4 v1_5 v1_6 v1_7 k6 f6 k7 f7 o_20 hqo_20 H.size) (cwV 0 hts gX5_readNewName_X10_advance rfl rfl rfl zhd_X10_advance ⟨Nat.le_of_ble_eq_true rfl, Nat.le_of_ble_eq_true rfl⟩) [1, 6, 7] rfl (of_decide_eq_true rfl) [2, 3] rfl rfl rfl rfl hl.1 rfl (Nat.le_of_ble_eq_true rfl) dX5_readNewName_74 ⟨Nat.le_of_ble_eq_true rfl, Nat.le_of_ble_eq_true rfl⟩ [none, some 0, none, none, none, none, some 1, some 2] (of_decide_eq_true rfl) (of_decide_eq_true rfl) rfl rfl rfl (fun H locs hP hD hS => ?_)
      refine lv_iconst (v := 1) hx hb dX5_readNewName_77 zci_1 ?_
      have ho := Option.some.inj hfn
      subst ho
      exact zrz hx hb hr rfl hK hP hD hS hQ ⟨rfl, zB1⟩ hlocks dX5_readNewName_78
    have hfn := (if_neg c_19).symm.trans hfn
    refine lv_aload_n hx hb dX5_readNewName_52 rfl (lv_at hl 1 rfl) ?_
    refine lv_iconst (v := 3) hx hb dX5_readNewName_53 zci_3 ?_
    refine lv_aload_n hx hb dX5_readNewName_54 rfl (lv_at hl 1 rfl) ?_
    refine va_get (D := (dC, dI)) (ci := 5) (v := .ref r0_0) (C := RX5) (T := TX5) (N := 4) hx hb hts zn_X5_readNewName_X5 hown hK hP 0 rfl rfl 0 (of_decide_eq_true rfl) (hts (.fieldLink RX5 12 "ShortEnough$Parser" "words" "LShortEnough$Words;") zw_X5_readNewName_425) (fun _ h9 => h9) rfl dX5_readNewName_55 ?_
    refine va_get (D := (dC, dI)) (ci := 10) (v := .int v1_5) (C := RX10) (T := TX10) (N := 8) hx hb hts zn_X5_readNewName_X10 hown hK hP 1 rfl rfl 5 (of_decide_eq_true rfl) (hts (.fieldLink RX5 64 "ShortEnough$Words" "start" "I") zw_X5_readNewName_434) (fun _ h9 => h9) rfl dX5_readNewName_58 ?_
    obtain ⟨o_24, hqo_24, hfn⟩ := zb_s hfn
    refine zcVb (ci := 5) (rest := []) (pc' := 64) (ws' := [zV5 h0 r0_0 v0_1 o_24.2.1 o_24.2.2, zV10 r0_0 r1_0 r1_1 v1_2 v1_3 v1_4 v1_5 v1_6 v1_7, zV9 h1 v2_0 r2_1 r2_2 r2_3 r2_4 v2_5 r2_6 r2_7 r2_8, zVi r2_1 k3 4 f3, zV4 r2_6 v4_0 v4_1 r4_2 r4_3 r4_4 r4_5 r4_6 r4_7 r4_8 r4_9, zVi r4_2 k5 14 f5, zVi r1_1 k6 1200 f6, zVi r1_0 k7 13 f7]) hP hK hD hS hA ⟨hx, hb, hml, hown, hts⟩ (zf_X5_stopAt l dC dI h0 3 v1_5 r0_0 v0_1 v0_2 v0_3 o_24 hqo_24 H.size) (cwV 2 hts gX5_readNewName_X5_stopAt rfl rfl rfl zhd_X5_stopAt ⟨Nat.le_of_ble_eq_true rfl, Nat.le_of_ble_eq_true rfl⟩) [0] rfl (of_decide_eq_true rfl) [] rfl rfl rfl rfl hl.1 rfl (Nat.le_of_ble_eq_true rfl) dX5_readNewName_61 ⟨Nat.le_of_ble_eq_true rfl, Nat.le_of_ble_eq_true rfl⟩ [some 0] (of_decide_eq_true rfl) (of_decide_eq_true rfl) rfl rfl rfl (fun H locs hw_27n hP hD hS => ?_)
    have ho := Option.some.inj hfn
    subst ho
    exact zrz hx hb hr hw_27n hK hP hD hS hQ ⟨rfl, hw_27n⟩ hlocks dX5_readNewName_64
  have hfn := (if_pos c_5).symm.trans hfn
  refine lv_aload_n hx hb dX5_readNewName_10 rfl (lv_at hl 0 rfl) ?_
  refine lv_iconst (v := 1) hx hb dX5_readNewName_11 zci_1 ?_
  refine lv_aload_n hx hb dX5_readNewName_12 rfl (lv_at hl 0 rfl) ?_
  refine va_get (D := (dC, dI)) (ci := 5) (v := .ref r0_0) (C := RX5) (T := TX5) (N := 4) hx hb hts zn_X5_readNewName_X5 hown hK hP 0 rfl rfl 0 (of_decide_eq_true rfl) (hts (.fieldLink RX5 12 "ShortEnough$Parser" "words" "LShortEnough$Words;") zw_X5_readNewName_425) (fun _ h9 => h9) rfl dX5_readNewName_13 ?_
  refine va_get (D := (dC, dI)) (ci := 10) (v := .int v1_5) (C := RX10) (T := TX10) (N := 8) hx hb hts zn_X5_readNewName_X10 hown hK hP 1 rfl rfl 5 (of_decide_eq_true rfl) (hts (.fieldLink RX5 64 "ShortEnough$Words" "start" "I") zw_X5_readNewName_434) (fun _ h9 => h9) rfl dX5_readNewName_16 ?_
  obtain ⟨o_28, hqo_28, hfn⟩ := zb_s hfn
  refine zcVb (ci := 5) (rest := []) (pc' := 22) (ws' := [zV5 h0 r0_0 v0_1 o_28.2.1 o_28.2.2, zV10 r0_0 r1_0 r1_1 v1_2 v1_3 v1_4 v1_5 v1_6 v1_7, zV9 h1 v2_0 r2_1 r2_2 r2_3 r2_4 v2_5 r2_6 r2_7 r2_8, zVi r2_1 k3 4 f3, zV4 r2_6 v4_0 v4_1 r4_2 r4_3 r4_4 r4_5 r4_6 r4_7 r4_8 r4_9, zVi r4_2 k5 14 f5, zVi r1_1 k6 1200 f6, zVi r1_0 k7 13 f7]) hP hK hD hS hA ⟨hx, hb, hml, hown, hts⟩ (zf_X5_stopAt l dC dI h0 1 v1_5 r0_0 v0_1 v0_2 v0_3 o_28 hqo_28 H.size) (cwV 2 hts gX5_readNewName_X5_stopAt rfl rfl rfl zhd_X5_stopAt ⟨Nat.le_of_ble_eq_true rfl, Nat.le_of_ble_eq_true rfl⟩) [0] rfl (of_decide_eq_true rfl) [] rfl rfl rfl rfl hl.1 rfl (Nat.le_of_ble_eq_true rfl) dX5_readNewName_19 ⟨Nat.le_of_ble_eq_true rfl, Nat.le_of_ble_eq_true rfl⟩ [some 0] (of_decide_eq_true rfl) (of_decide_eq_true rfl) rfl rfl rfl (fun H locs hw_31n hP hD hS => ?_)
  have ho := Option.some.inj hfn
  subst ho
  exact zrz hx hb hr hw_31n hK hP hD hS hQ ⟨rfl, hw_31n⟩ hlocks dX5_readNewName_22
theorem zn_X10_isOwn_X10 : ∀ w ∈ wsX100, w ∈ wsX10_isOwn := fun _ h => List.mem_cons_of_mem _ (List.mem_append_right _ h)
theorem zw_X10_isOwn_443 : Cond.fieldLink RX10 46 "ShortEnough$Words" "kind" "I" ∈ wsX10_isOwn := List.mem_of_getElem? (i := 1) (by decide +kernel)
theorem zw_X10_isOwn_444 : Cond.fieldLink RX10 70 "ShortEnough$Words" "own" "I" ∈ wsX10_isOwn := List.mem_of_getElem? (i := 2) (by decide +kernel)
set_option maxHeartbeats 4000000 in
set_option maxRecDepth 100000 in
theorem zf_X10_isOwn (l : Launch) (dC : Nat → ClassId) (dI : Nat → Nat → Nat) (h0 : Nat) (p1 : Int32) (r0_0 : Nat) (r0_1 : Nat) (v0_2 : Int32) (v0_3 : Int32) (v0_4 : Int32) (v0_5 : Int32) (v0_6 : Int32) (v0_7 : Int32) (o : Int32) (hfn : fn_X10_isOwn p1 v0_4 v0_7 = some o) (sz : Nat) : zMi l yX10_isOwn wsX10_isOwn ({ frames := 0, cells := 0, slots := 0, locals := 0 }) (dC, dI) vwCl [.ref h0, .int p1] [zV10 h0 r0_0 r0_1 v0_2 v0_3 v0_4 v0_5 v0_6 v0_7] [] (fun r _ => r = o ∧ narrow .boolean (.int o) = .int o) [zV10 h0 r0_0 r0_1 v0_2 v0_3 v0_4 v0_5 v0_6 v0_7] [] sz := by
  refine zgoi (cc := cX10_isOwn) (maxL := 2) (ret := (some .boolean)) (C0 := RX10) (lv0 := [(0, .ref h0), (1, .int p1)]) zpl_X10 rfl rfl rfl (Nat.le_of_ble_eq_true rfl) ?_
  intro p e s m below meth c A ls Q hx hb hr hts hown hlocks hml hP hK hD hA hS hl hQ
  unfold fn_X10_isOwn at hfn
  refine lv_aload_n hx hb dX10_isOwn_0 rfl (lv_at hl 0 rfl) ?_
  refine va_get (D := (dC, dI)) (ci := 10) (v := .int v0_4) (C := RX10) (T := TX10) (N := 8) hx hb hts zn_X10_isOwn_X10 hown hK hP 0 rfl rfl 4 (of_decide_eq_true rfl) (hts (.fieldLink RX10 46 "ShortEnough$Words" "kind" "I") zw_X10_isOwn_443) (fun _ h9 => h9) rfl dX10_isOwn_1 ?_
  refine lv_iconst (v := 1) hx hb dX10_isOwn_4 zci_1 ?_
  refine lv_icmp_ne (tgt := 20) hx hb dX10_isOwn_5 (of_decide_eq_true rfl) (fun c_1 => ?_) (fun c_1 => ?_)
  · have hfn := (if_neg c_1).symm.trans hfn
    refine lv_iconst (v := 0) hx hb dX10_isOwn_20 zci_0 ?_
    have ho := Option.some.inj hfn
    subst ho
    exact zrz hx hb hr rfl hK hP hD hS hQ ⟨rfl, zB0⟩ hlocks dX10_isOwn_21
  have hfn := (if_pos c_1).symm.trans hfn
  refine lv_aload_n hx hb dX10_isOwn_8 rfl (lv_at hl 0 rfl) ?_
  refine va_get (D := (dC, dI)) (ci := 10) (v := .int v0_7) (C := RX10) (T := TX10) (N := 8) hx hb hts zn_X10_isOwn_X10 hown hK hP 0 rfl rfl 7 (of_decide_eq_true rfl) (hts (.fieldLink RX10 70 "ShortEnough$Words" "own" "I") zw_X10_isOwn_444) (fun _ h9 => h9) rfl dX10_isOwn_9 ?_
  refine lv_iload_n hx hb dX10_isOwn_12 rfl (lv_at hl 1 rfl) ?_
  refine lv_icmp_ne (tgt := 20) hx hb dX10_isOwn_13 (of_decide_eq_true rfl) (fun c_2 => ?_) (fun c_2 => ?_)
  · have hfn := (if_neg c_2).symm.trans hfn
    refine lv_iconst (v := 0) hx hb dX10_isOwn_20 zci_0 ?_
    have ho := Option.some.inj hfn
    subst ho
    exact zrz hx hb hr rfl hK hP hD hS hQ ⟨rfl, zB0⟩ hlocks dX10_isOwn_21
  have hfn := (if_pos c_2).symm.trans hfn
  refine lv_iconst (v := 1) hx hb dX10_isOwn_16 zci_1 ?_
  refine lv_goto (tgt := 21) hx hb dX10_isOwn_17 (of_decide_eq_true rfl) ?_
  have ho := Option.some.inj hfn
  subst ho
  exact zrz hx hb hr rfl hK hP hD hS hQ ⟨rfl, zB1⟩ hlocks dX10_isOwn_21
theorem zn_X5_readOwn_X5 : ∀ w ∈ wsX50, w ∈ wsX5_readOwn := fun _ h => List.mem_cons_of_mem _ (List.mem_append_left _ (List.mem_append_right _ h))
theorem zw_X5_readOwn_441 : Cond.fieldLink RX5 12 "ShortEnough$Parser" "words" "LShortEnough$Words;" ∈ wsX5_readOwn := List.mem_of_getElem? (i := 1) (by decide +kernel)
theorem zn_X5_readOwn_X10 : ∀ w ∈ wsX100, w ∈ wsX5_readOwn := fun _ h => List.mem_cons_of_mem _ (List.mem_append_right _ h)
theorem zw_X5_readOwn_446 : Cond.fieldLink RX5 64 "ShortEnough$Words" "start" "I" ∈ wsX5_readOwn := List.mem_of_getElem? (i := 2) (by decide +kernel)
set_option maxHeartbeats 4000000 in
set_option maxRecDepth 100000 in
theorem zf_X5_readOwn (l : Launch) (dC : Nat → ClassId) (dI : Nat → Nat → Nat) (h0 : Nat) (p1 : Int32) (r0_0 : Nat) (v0_1 : Int32) (v0_2 : Int32) (v0_3 : Int32) (r1_0 : Nat) (r1_1 : Nat) (v1_2 : Int32) (v1_3 : Int32) (v1_4 : Int32) (v1_5 : Int32) (v1_6 : Int32) (v1_7 : Int32) (k2 : Nat) (f2 : Nat → Int32) (k3 : Nat) (f3 : Nat → Int32) (o : Int32 × Int32 × Int32 × Int32 × Int32 × Int32 × Int32 × Int32) (hfn : fn_X5_readOwn p1 v0_2 v0_3 v1_2 v1_3 v1_4 v1_5 v1_6 v1_7 f2 f3 = some o) (sz : Nat) : zMi l yX5_readOwn wsX5_readOwn ({ frames := 2, cells := 0, slots := 0, locals := 46 }) (dC, dI) vwCl [.ref h0, .int p1] [zV5 h0 r0_0 v0_1 v0_2 v0_3, zV10 r0_0 r1_0 r1_1 v1_2 v1_3 v1_4 v1_5 v1_6 v1_7, zVi r1_1 k2 1200 f2, zVi r1_0 k3 13 f3] [(k2, .byte), (k3, .int)] (fun r _ => r = o.1 ∧ narrow .boolean (.int o.1) = .int o.1) [zV5 h0 r0_0 v0_1 o.2.1 o.2.2.1, zV10 r0_0 r1_0 r1_1 v1_2 o.2.2.2.1 o.2.2.2.2.1 o.2.2.2.2.2.1 o.2.2.2.2.2.2.1 o.2.2.2.2.2.2.2, zVi r1_1 k2 1200 f2, zVi r1_0 k3 13 f3] [(k2, .byte), (k3, .int)] sz := by
  refine zgoi (cc := cX5_readOwn) (maxL := 2) (ret := (some .boolean)) (C0 := RX5) (lv0 := [(0, .ref h0), (1, .int p1)]) zpl_X5 rfl rfl rfl (Nat.le_of_ble_eq_true rfl) ?_
  intro p e s m below meth c A ls Q hx hb hr hts hown hlocks hml hP hK hD hA hS hl hQ
  unfold fn_X5_readOwn at hfn
  refine lv_aload_n hx hb dX5_readOwn_0 rfl (lv_at hl 0 rfl) ?_
  refine va_get (D := (dC, dI)) (ci := 5) (v := .ref r0_0) (C := RX5) (T := TX5) (N := 4) hx hb hts zn_X5_readOwn_X5 hown hK hP 0 rfl rfl 0 (of_decide_eq_true rfl) (hts (.fieldLink RX5 12 "ShortEnough$Parser" "words" "LShortEnough$Words;") zw_X5_readOwn_441) (fun _ h9 => h9) rfl dX5_readOwn_1 ?_
  refine lv_iload_n hx hb dX5_readOwn_4 rfl (lv_at hl 1 rfl) ?_
  obtain ⟨o_1, hqo_1, hfn⟩ := zb_s hfn
  refine zcVb (ci := 10) (rest := []) (pc' := 8) (ws' := [zV5 h0 r0_0 v0_1 v0_2 v0_3, zV10 r0_0 r1_0 r1_1 v1_2 v1_3 v1_4 v1_5 v1_6 v1_7, zVi r1_1 k2 1200 f2, zVi r1_0 k3 13 f3]) hP hK hD hS hA ⟨hx, hb, hml, hown, hts⟩ (zf_X10_isOwn l dC dI r0_0 p1 r1_0 r1_1 v1_2 v1_3 v1_4 v1_5 v1_6 v1_7 o_1 hqo_1 s.heap.size) (cwV 1 hts gX5_readOwn_X10_isOwn rfl rfl rfl zhd_X10_isOwn ⟨Nat.le_of_ble_eq_true rfl, Nat.le_of_ble_eq_true rfl⟩) [1] rfl (of_decide_eq_true rfl) [] rfl rfl rfl rfl hl.1 rfl (Nat.le_of_ble_eq_true rfl) dX5_readOwn_5 ⟨Nat.le_of_ble_eq_true rfl, Nat.le_of_ble_eq_true rfl⟩ [none, some 0] (of_decide_eq_true rfl) (of_decide_eq_true rfl) rfl rfl rfl (fun H locs hw_4n hP hD hS => ?_)
  refine lv_if_ne (tgt := 24) hx hb dX5_readOwn_8 (of_decide_eq_true rfl) (fun c_5 => ?_) (fun c_5 => ?_)
  · have hfn := (if_neg c_5).symm.trans hfn
    refine lv_aload_n hx hb dX5_readOwn_24 rfl (lv_at hl 0 rfl) ?_
    refine va_get (D := (dC, dI)) (ci := 5) (v := .ref r0_0) (C := RX5) (T := TX5) (N := 4) hx hb hts zn_X5_readOwn_X5 hown hK hP 0 rfl rfl 0 (of_decide_eq_true rfl) (hts (.fieldLink RX5 12 "ShortEnough$Parser" "words" "LShortEnough$Words;") zw_X5_readOwn_441) (fun _ h9 => h9) rfl dX5_readOwn_25 ?_
    obtain ⟨o_6, hqo_6, hfn⟩ := zb_s hfn
    refine zcVv (ci := 10) (rest := []) (pc' := 31) (ws' := [zV5 h0 r0_0 v0_1 v0_2 v0_3, zV10 r0_0 r1_0 r1_1 v1_2 o_6.1 o_6.2.1 o_6.2.2.1 o_6.2.2.2.1 o_6.2.2.2.2, zVi r1_1 k2 1200 f2, zVi r1_0 k3 13 f3]) hP hK hD hS hA ⟨hx, hb, hml, hown, hts⟩ (zf_X10_advance l dC dI r0_0 r1_0 r1_1 v1_2 v1_3 v1_4 v1_5 v1_6 v1_7 k2 f2 k3 f3 o_6 hqo_6 H.size) (cwV 0 hts gX5_readOwn_X10_advance rfl rfl rfl zhd_X10_advance ⟨Nat.le_of_ble_eq_true rfl, Nat.le_of_ble_eq_true rfl⟩) [1, 2, 3] rfl (of_decide_eq_true rfl) [0, 1] rfl rfl rfl rfl hl.1 rfl (Nat.le_of_ble_eq_true rfl) dX5_readOwn_28 ⟨Nat.le_of_ble_eq_true rfl, Nat.le_of_ble_eq_true rfl⟩ [none, some 0, some 1, some 2] (of_decide_eq_true rfl) (of_decide_eq_true rfl) rfl rfl rfl (fun H locs hP hD hS => ?_)
    refine lv_iconst (v := 1) hx hb dX5_readOwn_31 zci_1 ?_
    have ho := Option.some.inj hfn
    subst ho
    exact zrz hx hb hr rfl hK hP hD hS hQ ⟨rfl, zB1⟩ hlocks dX5_readOwn_32
  have hfn := (if_pos c_5).symm.trans hfn
  refine lv_aload_n hx hb dX5_readOwn_11 rfl (lv_at hl 0 rfl) ?_
  refine lv_iconst (v := 1) hx hb dX5_readOwn_12 zci_1 ?_
  refine lv_aload_n hx hb dX5_readOwn_13 rfl (lv_at hl 0 rfl) ?_
  refine va_get (D := (dC, dI)) (ci := 5) (v := .ref r0_0) (C := RX5) (T := TX5) (N := 4) hx hb hts zn_X5_readOwn_X5 hown hK hP 0 rfl rfl 0 (of_decide_eq_true rfl) (hts (.fieldLink RX5 12 "ShortEnough$Parser" "words" "LShortEnough$Words;") zw_X5_readOwn_441) (fun _ h9 => h9) rfl dX5_readOwn_14 ?_
  refine va_get (D := (dC, dI)) (ci := 10) (v := .int v1_5) (C := RX10) (T := TX10) (N := 8) hx hb hts zn_X5_readOwn_X10 hown hK hP 1 rfl rfl 5 (of_decide_eq_true rfl) (hts (.fieldLink RX5 64 "ShortEnough$Words" "start" "I") zw_X5_readOwn_446) (fun _ h9 => h9) rfl dX5_readOwn_17 ?_
  obtain ⟨o_10, hqo_10, hfn⟩ := zb_s hfn
  refine zcVb (ci := 5) (rest := []) (pc' := 23) (ws' := [zV5 h0 r0_0 v0_1 o_10.2.1 o_10.2.2, zV10 r0_0 r1_0 r1_1 v1_2 v1_3 v1_4 v1_5 v1_6 v1_7, zVi r1_1 k2 1200 f2, zVi r1_0 k3 13 f3]) hP hK hD hS hA ⟨hx, hb, hml, hown, hts⟩ (zf_X5_stopAt l dC dI h0 1 v1_5 r0_0 v0_1 v0_2 v0_3 o_10 hqo_10 H.size) (cwV 2 hts gX5_readOwn_X5_stopAt rfl rfl rfl zhd_X5_stopAt ⟨Nat.le_of_ble_eq_true rfl, Nat.le_of_ble_eq_true rfl⟩) [0] rfl (of_decide_eq_true rfl) [] rfl rfl rfl rfl hl.1 rfl (Nat.le_of_ble_eq_true rfl) dX5_readOwn_20 ⟨Nat.le_of_ble_eq_true rfl, Nat.le_of_ble_eq_true rfl⟩ [some 0] (of_decide_eq_true rfl) (of_decide_eq_true rfl) rfl rfl rfl (fun H locs hw_13n hP hD hS => ?_)
  have ho := Option.some.inj hfn
  subst ho
  exact zrz hx hb hr hw_13n hK hP hD hS hQ ⟨rfl, hw_13n⟩ hlocks dX5_readOwn_23
theorem zn_X10_isSign_X10 : ∀ w ∈ wsX100, w ∈ wsX10_isSign := fun _ h => List.mem_cons_of_mem _ (List.mem_append_right _ h)
theorem zw_X10_isSign_453 : Cond.fieldLink RX10 46 "ShortEnough$Words" "kind" "I" ∈ wsX10_isSign := List.mem_of_getElem? (i := 1) (by decide +kernel)
theorem zw_X10_isSign_454 : Cond.fieldLink RX10 59 "ShortEnough$Words" "value" "I" ∈ wsX10_isSign := List.mem_of_getElem? (i := 2) (by decide +kernel)
set_option maxHeartbeats 4000000 in
set_option maxRecDepth 100000 in
theorem zf_X10_isSign (l : Launch) (dC : Nat → ClassId) (dI : Nat → Nat → Nat) (h0 : Nat) (p1 : Int32) (r0_0 : Nat) (r0_1 : Nat) (v0_2 : Int32) (v0_3 : Int32) (v0_4 : Int32) (v0_5 : Int32) (v0_6 : Int32) (v0_7 : Int32) (o : Int32) (hfn : fn_X10_isSign p1 v0_4 v0_6 = some o) (sz : Nat) : zMi l yX10_isSign wsX10_isSign ({ frames := 0, cells := 0, slots := 0, locals := 0 }) (dC, dI) vwCl [.ref h0, .int p1] [zV10 h0 r0_0 r0_1 v0_2 v0_3 v0_4 v0_5 v0_6 v0_7] [] (fun r _ => r = o ∧ narrow .boolean (.int o) = .int o) [zV10 h0 r0_0 r0_1 v0_2 v0_3 v0_4 v0_5 v0_6 v0_7] [] sz := by
  refine zgoi (cc := cX10_isSign) (maxL := 2) (ret := (some .boolean)) (C0 := RX10) (lv0 := [(0, .ref h0), (1, .int p1)]) zpl_X10 rfl rfl rfl (Nat.le_of_ble_eq_true rfl) ?_
  intro p e s m below meth c A ls Q hx hb hr hts hown hlocks hml hP hK hD hA hS hl hQ
  unfold fn_X10_isSign at hfn
  refine lv_aload_n hx hb dX10_isSign_0 rfl (lv_at hl 0 rfl) ?_
  refine va_get (D := (dC, dI)) (ci := 10) (v := .int v0_4) (C := RX10) (T := TX10) (N := 8) hx hb hts zn_X10_isSign_X10 hown hK hP 0 rfl rfl 4 (of_decide_eq_true rfl) (hts (.fieldLink RX10 46 "ShortEnough$Words" "kind" "I") zw_X10_isSign_453) (fun _ h9 => h9) rfl dX10_isSign_1 ?_
  refine lv_iconst (v := 3) hx hb dX10_isSign_4 zci_3 ?_
  refine lv_icmp_ne (tgt := 20) hx hb dX10_isSign_5 (of_decide_eq_true rfl) (fun c_1 => ?_) (fun c_1 => ?_)
  · have hfn := (if_neg c_1).symm.trans hfn
    refine lv_iconst (v := 0) hx hb dX10_isSign_20 zci_0 ?_
    have ho := Option.some.inj hfn
    subst ho
    exact zrz hx hb hr rfl hK hP hD hS hQ ⟨rfl, zB0⟩ hlocks dX10_isSign_21
  have hfn := (if_pos c_1).symm.trans hfn
  refine lv_aload_n hx hb dX10_isSign_8 rfl (lv_at hl 0 rfl) ?_
  refine va_get (D := (dC, dI)) (ci := 10) (v := .int v0_6) (C := RX10) (T := TX10) (N := 8) hx hb hts zn_X10_isSign_X10 hown hK hP 0 rfl rfl 6 (of_decide_eq_true rfl) (hts (.fieldLink RX10 59 "ShortEnough$Words" "value" "I") zw_X10_isSign_454) (fun _ h9 => h9) rfl dX10_isSign_9 ?_
  refine lv_iload_n hx hb dX10_isSign_12 rfl (lv_at hl 1 rfl) ?_
  refine lv_icmp_ne (tgt := 20) hx hb dX10_isSign_13 (of_decide_eq_true rfl) (fun c_2 => ?_) (fun c_2 => ?_)
  · have hfn := (if_neg c_2).symm.trans hfn
    refine lv_iconst (v := 0) hx hb dX10_isSign_20 zci_0 ?_
    have ho := Option.some.inj hfn
    subst ho
    exact zrz hx hb hr rfl hK hP hD hS hQ ⟨rfl, zB0⟩ hlocks dX10_isSign_21
  have hfn := (if_pos c_2).symm.trans hfn
  refine lv_iconst (v := 1) hx hb dX10_isSign_16 zci_1 ?_
  refine lv_goto (tgt := 21) hx hb dX10_isSign_17 (of_decide_eq_true rfl) ?_
  have ho := Option.some.inj hfn
  subst ho
  exact zrz hx hb hr rfl hK hP hD hS hQ ⟨rfl, zB1⟩ hlocks dX10_isSign_21
theorem zn_X5_readValue_X5 : ∀ w ∈ wsX50, w ∈ wsX5_readValue := fun _ h => List.mem_cons_of_mem _ (List.mem_append_left _ (List.mem_append_right _ h))
theorem zw_X5_readValue_449 : Cond.fieldLink RX5 12 "ShortEnough$Parser" "words" "LShortEnough$Words;" ∈ wsX5_readValue := List.mem_of_getElem? (i := 1) (by decide +kernel)
theorem zn_X5_readValue_X10 : ∀ w ∈ wsX100, w ∈ wsX5_readValue := fun _ h => List.mem_cons_of_mem _ (List.mem_append_right _ h)
theorem zw_X5_readValue_451 : Cond.fieldLink RX5 64 "ShortEnough$Words" "start" "I" ∈ wsX5_readValue := List.mem_of_getElem? (i := 2) (by decide +kernel)
theorem zw_X5_readValue_455 : Cond.fieldLink RX5 34 "ShortEnough$Words" "kind" "I" ∈ wsX5_readValue := List.mem_of_getElem? (i := 3) (by decide +kernel)
theorem zw_X5_readValue_456 : Cond.fieldLink RX5 138 "ShortEnough$Words" "value" "I" ∈ wsX5_readValue := List.mem_of_getElem? (i := 4) (by decide +kernel)
theorem zw_X5_readValue_457 : Cond.fieldLink RX5 102 "ShortEnough$Parser" "got" "I" ∈ wsX5_readValue := List.mem_of_getElem? (i := 5) (by decide +kernel)
set_option maxHeartbeats 4000000 in
set_option maxRecDepth 100000 in
theorem zf_X5_readValue (l : Launch) (dC : Nat → ClassId) (dI : Nat → Nat → Nat) (h0 : Nat) (p1 : Int32) (p2 : Int32) (p3 : Int32) (r0_0 : Nat) (v0_1 : Int32) (v0_2 : Int32) (v0_3 : Int32) (r1_0 : Nat) (r1_1 : Nat) (v1_2 : Int32) (v1_3 : Int32) (v1_4 : Int32) (v1_5 : Int32) (v1_6 : Int32) (v1_7 : Int32) (k2 : Nat) (f2 : Nat → Int32) (k3 : Nat) (f3 : Nat → Int32) (o : Int32 × Int32 × Int32 × Int32 × Int32 × Int32 × Int32 × Int32 × Int32) (hfn : fn_X5_readValue p1 p2 p3 v0_1 v0_2 v0_3 v1_2 v1_3 v1_4 v1_5 v1_6 v1_7 f2 f3 = some o) (sz : Nat) : zMi l yX5_readValue wsX5_readValue ({ frames := 2, cells := 0, slots := 0, locals := 46 }) (dC, dI) vwCl [.ref h0, .int p1, .int p2, .int p3] [zV5 h0 r0_0 v0_1 v0_2 v0_3, zV10 r0_0 r1_0 r1_1 v1_2 v1_3 v1_4 v1_5 v1_6 v1_7, zVi r1_1 k2 1200 f2, zVi r1_0 k3 13 f3] [(k2, .byte), (k3, .int)] (fun r _ => r = o.1 ∧ narrow .boolean (.int o.1) = .int o.1) [zV5 h0 r0_0 o.2.1 o.2.2.1 o.2.2.2.1, zV10 r0_0 r1_0 r1_1 v1_2 o.2.2.2.2.1 o.2.2.2.2.2.1 o.2.2.2.2.2.2.1 o.2.2.2.2.2.2.2.1 o.2.2.2.2.2.2.2.2, zVi r1_1 k2 1200 f2, zVi r1_0 k3 13 f3] [(k2, .byte), (k3, .int)] sz := by
  refine zgoi (cc := cX5_readValue) (maxL := 7) (ret := (some .boolean)) (C0 := RX5) (lv0 := [(0, .ref h0), (1, .int p1), (2, .int p2), (3, .int p3)]) zpl_X5 rfl rfl rfl (Nat.le_of_ble_eq_true rfl) ?_
  intro p e s m below meth c A ls Q hx hb hr hts hown hlocks hml hP hK hD hA hS hl hQ
  unfold fn_X5_readValue at hfn
  refine lv_aload_n hx hb dX5_readValue_0 rfl (lv_at hl 0 rfl) ?_
  refine va_get (D := (dC, dI)) (ci := 5) (v := .ref r0_0) (C := RX5) (T := TX5) (N := 4) hx hb hts zn_X5_readValue_X5 hown hK hP 0 rfl rfl 0 (of_decide_eq_true rfl) (hts (.fieldLink RX5 12 "ShortEnough$Parser" "words" "LShortEnough$Words;") zw_X5_readValue_449) (fun _ h9 => h9) rfl dX5_readValue_1 ?_
  refine va_get (D := (dC, dI)) (ci := 10) (v := .int v1_5) (C := RX10) (T := TX10) (N := 8) hx hb hts zn_X5_readValue_X10 hown hK hP 1 rfl rfl 5 (of_decide_eq_true rfl) (hts (.fieldLink RX5 64 "ShortEnough$Words" "start" "I") zw_X5_readValue_451) (fun _ h9 => h9) rfl dX5_readValue_4 ?_
  refine lv_istore (lv' := [(4, .int v1_5), (0, .ref h0), (1, .int p1), (2, .int p2), (3, .int p3)]) hx hb dX5_readValue_7 hl (of_decide_eq_true rfl) rfl (fun ls hl => ?_)
  refine lv_iload_n hx hb dX5_readValue_9 rfl (lv_at hl 2 rfl) ?_
  obtain ⟨j_1, ej_1, hfn⟩ := zj_g hfn
  have jp_1 : ∀ (s_1 : Int32) (H : Heap) (locs : List Loc) (ls : Array Slot), j_1 s_1 = some o → va_P (dC, dI) vwCl [zV5 h0 r0_0 v0_1 v0_2 v0_3, zV10 r0_0 r1_0 r1_1 v1_2 v1_3 v1_4 v1_5 v1_6 v1_7, zVi r1_1 k2 1200 f2, zVi r1_0 k3 13 f3] H → va_D A [zV5 h0 r0_0 v0_1 v0_2 v0_3, zV10 r0_0 r1_0 r1_1 v1_2 v1_3 v1_4 v1_5 v1_6 v1_7, zVi r1_1 k2 1200 f2, zVi r1_0 k3 13 f3] → va_S A s.heap H locs → lv_has ls 7 [(4, .int v1_5), (0, .ref h0), (2, .int p2), (3, .int p3)] → W p l e (headSpec wsX5_readValue ({ frames := 2, cells := 0, slots := 0, locals := 46 })).room s m ([.ref h0, .int p1, .int p2, .int p3] : List Value).toArray below meth c H locs 0 0 Q (F0 m 30 ls [.int s_1]) := by
    intro s_1 H locs ls hfn hP hD hS hl
    have hfn := zj_s ej_1 hfn
    refine lv_istore (lv' := [(5, .int s_1), (4, .int v1_5), (0, .ref h0), (2, .int p2), (3, .int p3)]) hx hb dX5_readValue_30 hl (of_decide_eq_true rfl) rfl (fun ls hl => ?_)
    refine lv_iload hx hb dX5_readValue_32 (lv_at hl 0 rfl) ?_
    obtain ⟨j_2, ej_2, hfn⟩ := zj_g hfn
    have jp_2 : ∀ (s_2 : Int32 × Int32 × Int32 × Int32 × Int32) (H : Heap) (locs : List Loc) (ls : Array Slot), j_2 s_2 = some o → va_P (dC, dI) vwCl [zV5 h0 r0_0 v0_1 v0_2 v0_3, zV10 r0_0 r1_0 r1_1 v1_2 s_2.1 s_2.2.1 s_2.2.2.1 s_2.2.2.2.1 s_2.2.2.2.2, zVi r1_1 k2 1200 f2, zVi r1_0 k3 13 f3] H → va_D A [zV5 h0 r0_0 v0_1 v0_2 v0_3, zV10 r0_0 r1_0 r1_1 v1_2 s_2.1 s_2.2.1 s_2.2.2.1 s_2.2.2.2.1 s_2.2.2.2.2, zVi r1_1 k2 1200 f2, zVi r1_0 k3 13 f3] → va_S A s.heap H locs → lv_has ls 7 [(5, .int s_1), (4, .int v1_5), (0, .ref h0), (2, .int p2), (3, .int p3)] → W p l e (headSpec wsX5_readValue ({ frames := 2, cells := 0, slots := 0, locals := 46 })).room s m ([.ref h0, .int p1, .int p2, .int p3] : List Value).toArray below meth c H locs 0 0 Q (F0 m 44 ls []) := by
      intro s_2 H locs ls hfn hP hD hS hl
      have hfn := zj_s ej_2 hfn
      refine lv_aload_n hx hb dX5_readValue_44 rfl (lv_at hl 2 rfl) ?_
      refine va_get (D := (dC, dI)) (ci := 5) (v := .ref r0_0) (C := RX5) (T := TX5) (N := 4) hx hb hts zn_X5_readValue_X5 hown hK hP 0 rfl rfl 0 (of_decide_eq_true rfl) (hts (.fieldLink RX5 12 "ShortEnough$Parser" "words" "LShortEnough$Words;") zw_X5_readValue_449) (fun _ h9 => h9) rfl dX5_readValue_45 ?_
      refine va_get (D := (dC, dI)) (ci := 10) (v := .int s_2.2.1) (C := RX10) (T := TX10) (N := 8) hx hb hts zn_X5_readValue_X10 hown hK hP 1 rfl rfl 4 (of_decide_eq_true rfl) (hts (.fieldLink RX5 34 "ShortEnough$Words" "kind" "I") zw_X5_readValue_455) (fun _ h9 => h9) rfl dX5_readValue_48 ?_
      refine lv_iconst (v := 2) hx hb dX5_readValue_51 zci_2 ?_
      refine lv_icmp_eq (tgt := 68) hx hb dX5_readValue_52 (of_decide_eq_true rfl) (fun c_3 => ?_) (fun c_3 => ?_)
      · have hfn := (if_pos c_3).symm.trans hfn
        refine lv_iload hx hb dX5_readValue_68 (lv_at hl 0 rfl) ?_
        obtain ⟨j_4, ej_4, hfn⟩ := zj_g hfn
        have jp_4 : ∀ (s_4 : Int32) (H : Heap) (locs : List Loc) (ls : Array Slot), j_4 s_4 = some o → va_P (dC, dI) vwCl [zV5 h0 r0_0 v0_1 v0_2 v0_3, zV10 r0_0 r1_0 r1_1 v1_2 s_2.1 s_2.2.1 s_2.2.2.1 s_2.2.2.2.1 s_2.2.2.2.2, zVi r1_1 k2 1200 f2, zVi r1_0 k3 13 f3] H → va_D A [zV5 h0 r0_0 v0_1 v0_2 v0_3, zV10 r0_0 r1_0 r1_1 v1_2 s_2.1 s_2.2.1 s_2.2.2.1 s_2.2.2.2.1 s_2.2.2.2.2, zVi r1_1 k2 1200 f2, zVi r1_0 k3 13 f3] → va_S A s.heap H locs → lv_has ls 7 [(4, .int v1_5), (0, .ref h0), (2, .int p2), (3, .int p3)] → W p l e (headSpec wsX5_readValue ({ frames := 2, cells := 0, slots := 0, locals := 46 })).room s m ([.ref h0, .int p1, .int p2, .int p3] : List Value).toArray below meth c H locs 0 0 Q (F0 m 91 ls [.int s_4]) := by
          intro s_4 H locs ls hfn hP hD hS hl
          have hfn := zj_s ej_4 hfn
          refine lv_istore (lv' := [(6, .int s_4), (4, .int v1_5), (0, .ref h0), (2, .int p2), (3, .int p3)]) hx hb dX5_readValue_91 hl (of_decide_eq_true rfl) rfl (fun ls hl => ?_)
          refine lv_iload hx hb dX5_readValue_93 (lv_at hl 0 rfl) ?_
          refine lv_iload_n hx hb dX5_readValue_95 rfl (lv_at hl 3 rfl) ?_
          refine lv_icmp_lt (tgt := 105) hx hb dX5_readValue_96 (of_decide_eq_true rfl) (fun c_5 => ?_) (fun c_5 => ?_)
          · have hfn := (if_pos c_5).symm.trans hfn
            refine lv_aload_n hx hb dX5_readValue_105 rfl (lv_at hl 2 rfl) ?_
            refine lv_iconst (v := 2) hx hb dX5_readValue_106 zci_2 ?_
            refine lv_iload hx hb dX5_readValue_107 (lv_at hl 1 rfl) ?_
            obtain ⟨o_6, hqo_6, hfn⟩ := zb_s hfn
            refine zcVb (ci := 5) (rest := []) (pc' := 112) (ws' := [zV5 h0 r0_0 v0_1 o_6.2.1 o_6.2.2, zV10 r0_0 r1_0 r1_1 v1_2 s_2.1 s_2.2.1 s_2.2.2.1 s_2.2.2.2.1 s_2.2.2.2.2, zVi r1_1 k2 1200 f2, zVi r1_0 k3 13 f3]) hP hK hD hS hA ⟨hx, hb, hml, hown, hts⟩ (zf_X5_stopAt l dC dI h0 2 v1_5 r0_0 v0_1 v0_2 v0_3 o_6 hqo_6 H.size) (cwV 2 hts gX5_readValue_X5_stopAt rfl rfl rfl zhd_X5_stopAt ⟨Nat.le_of_ble_eq_true rfl, Nat.le_of_ble_eq_true rfl⟩) [0] rfl (of_decide_eq_true rfl) [] rfl rfl rfl rfl hl.1 rfl (Nat.le_of_ble_eq_true rfl) dX5_readValue_109 ⟨Nat.le_of_ble_eq_true rfl, Nat.le_of_ble_eq_true rfl⟩ [some 0] (of_decide_eq_true rfl) (of_decide_eq_true rfl) rfl rfl rfl (fun H locs hw_9n hP hD hS => ?_)
            have ho := Option.some.inj hfn
            subst ho
            exact zrz hx hb hr hw_9n hK hP hD hS hQ ⟨rfl, hw_9n⟩ hlocks dX5_readValue_112
          have hfn := (if_neg c_5).symm.trans hfn
          refine lv_iload hx hb dX5_readValue_99 (lv_at hl 0 rfl) ?_
          refine lv_iload_n hx hb dX5_readValue_101 rfl (lv_at hl 4 rfl) ?_
          refine lv_icmp_le (tgt := 113) hx hb dX5_readValue_102 (of_decide_eq_true rfl) (fun c_10 => ?_) (fun c_10 => ?_)
          · have hfn := (if_pos c_10).symm.trans hfn
            refine lv_aload_n hx hb dX5_readValue_113 rfl (lv_at hl 2 rfl) ?_
            refine lv_iload hx hb dX5_readValue_114 (lv_at hl 0 rfl) ?_
            refine va_put (D := (dC, dI)) (ci := 5) (v := .int s_4) (ty := .int) (C := RX5) (T := TX5) (N := 4) hx hb hts zn_X5_readValue_X5 tyX5 tyX5_ok nmX5 hown hK hP hD hS 0 rfl rfl 1 (of_decide_eq_true rfl) (hts (.fieldLink RX5 102 "ShortEnough$Parser" "got" "I") zw_X5_readValue_457) (fun _ h9 => h9) rfl (tyX5_ok 1 (of_decide_eq_true rfl)) rfl rfl (Nat.le_of_ble_eq_true rfl) dX5_readValue_116 (fun H locs hP hD hS => ?_)
            have hP : va_P (dC, dI) vwCl [zV5 h0 r0_0 s_4 v0_2 v0_3, zV10 r0_0 r1_0 r1_1 v1_2 s_2.1 s_2.2.1 s_2.2.2.1 s_2.2.2.2.1 s_2.2.2.2.2, zVi r1_1 k2 1200 f2, zVi r1_0 k3 13 f3] H := hP
            have hD := zDW hD hP rfl
            refine lv_aload_n hx hb dX5_readValue_119 rfl (lv_at hl 2 rfl) ?_
            refine va_get (D := (dC, dI)) (ci := 5) (v := .ref r0_0) (C := RX5) (T := TX5) (N := 4) hx hb hts zn_X5_readValue_X5 hown hK hP 0 rfl rfl 0 (of_decide_eq_true rfl) (hts (.fieldLink RX5 12 "ShortEnough$Parser" "words" "LShortEnough$Words;") zw_X5_readValue_449) (fun _ h9 => h9) rfl dX5_readValue_120 ?_
            obtain ⟨o_11, hqo_11, hfn⟩ := zb_s hfn
            refine zcVv (ci := 10) (rest := []) (pc' := 126) (ws' := [zV5 h0 r0_0 s_4 v0_2 v0_3, zV10 r0_0 r1_0 r1_1 v1_2 o_11.1 o_11.2.1 o_11.2.2.1 o_11.2.2.2.1 o_11.2.2.2.2, zVi r1_1 k2 1200 f2, zVi r1_0 k3 13 f3]) hP hK hD hS hA ⟨hx, hb, hml, hown, hts⟩ (zf_X10_advance l dC dI r0_0 r1_0 r1_1 v1_2 s_2.1 s_2.2.1 s_2.2.2.1 s_2.2.2.2.1 s_2.2.2.2.2 k2 f2 k3 f3 o_11 hqo_11 H.size) (cwV 0 hts gX5_readValue_X10_advance rfl rfl rfl zhd_X10_advance ⟨Nat.le_of_ble_eq_true rfl, Nat.le_of_ble_eq_true rfl⟩) [1, 2, 3] rfl (of_decide_eq_true rfl) [0, 1] rfl rfl rfl rfl hl.1 rfl (Nat.le_of_ble_eq_true rfl) dX5_readValue_123 ⟨Nat.le_of_ble_eq_true rfl, Nat.le_of_ble_eq_true rfl⟩ [none, some 0, some 1, some 2] (of_decide_eq_true rfl) (of_decide_eq_true rfl) rfl rfl rfl (fun H locs hP hD hS => ?_)
            refine lv_iconst (v := 1) hx hb dX5_readValue_126 zci_1 ?_
            have ho := Option.some.inj hfn
            subst ho
            exact zrz hx hb hr rfl hK hP hD hS hQ ⟨rfl, zB1⟩ hlocks dX5_readValue_127
          have hfn := (if_neg c_10).symm.trans hfn
          refine lv_aload_n hx hb dX5_readValue_105 rfl (lv_at hl 2 rfl) ?_
          refine lv_iconst (v := 2) hx hb dX5_readValue_106 zci_2 ?_
          refine lv_iload hx hb dX5_readValue_107 (lv_at hl 1 rfl) ?_
          obtain ⟨o_15, hqo_15, hfn⟩ := zb_s hfn
          refine zcVb (ci := 5) (rest := []) (pc' := 112) (ws' := [zV5 h0 r0_0 v0_1 o_15.2.1 o_15.2.2, zV10 r0_0 r1_0 r1_1 v1_2 s_2.1 s_2.2.1 s_2.2.2.1 s_2.2.2.2.1 s_2.2.2.2.2, zVi r1_1 k2 1200 f2, zVi r1_0 k3 13 f3]) hP hK hD hS hA ⟨hx, hb, hml, hown, hts⟩ (zf_X5_stopAt l dC dI h0 2 v1_5 r0_0 v0_1 v0_2 v0_3 o_15 hqo_15 H.size) (cwV 2 hts gX5_readValue_X5_stopAt rfl rfl rfl zhd_X5_stopAt ⟨Nat.le_of_ble_eq_true rfl, Nat.le_of_ble_eq_true rfl⟩) [0] rfl (of_decide_eq_true rfl) [] rfl rfl rfl rfl hl.1 rfl (Nat.le_of_ble_eq_true rfl) dX5_readValue_109 ⟨Nat.le_of_ble_eq_true rfl, Nat.le_of_ble_eq_true rfl⟩ [some 0] (of_decide_eq_true rfl) (of_decide_eq_true rfl) rfl rfl rfl (fun H locs hw_18n hP hD hS => ?_)
          have ho := Option.some.inj hfn
          subst ho
          exact zrz hx hb hr hw_18n hK hP hD hS hQ ⟨rfl, hw_18n⟩ hlocks dX5_readValue_112
        refine lv_if_eq (tgt := 84) hx hb dX5_readValue_70 (of_decide_eq_true rfl) (fun c_19 => ?_) (fun c_19 => ?_)
        · have hfn := (if_pos c_19).symm.trans hfn
          refine lv_aload_n hx hb dX5_readValue_84 rfl (lv_at hl 2 rfl) ?_
          refine va_get (D := (dC, dI)) (ci := 5) (v := .ref r0_0) (C := RX5) (T := TX5) (N := 4) hx hb hts zn_X5_readValue_X5 hown hK hP 0 rfl rfl 0 (of_decide_eq_true rfl) (hts (.fieldLink RX5 12 "ShortEnough$Parser" "words" "LShortEnough$Words;") zw_X5_readValue_449) (fun _ h9 => h9) rfl dX5_readValue_85 ?_
          refine va_get (D := (dC, dI)) (ci := 10) (v := .int s_2.2.2.2.1) (C := RX10) (T := TX10) (N := 8) hx hb hts zn_X5_readValue_X10 hown hK hP 1 rfl rfl 6 (of_decide_eq_true rfl) (hts (.fieldLink RX5 138 "ShortEnough$Words" "value" "I") zw_X5_readValue_456) (fun _ h9 => h9) rfl dX5_readValue_88 ?_
          exact jp_4 s_2.2.2.2.1 H locs ls hfn hP hD hS (lv_sub hl [1, 2, 3, 4] rfl)
        have hfn := (if_neg c_19).symm.trans hfn
        refine lv_aload_n hx hb dX5_readValue_73 rfl (lv_at hl 2 rfl) ?_
        refine va_get (D := (dC, dI)) (ci := 5) (v := .ref r0_0) (C := RX5) (T := TX5) (N := 4) hx hb hts zn_X5_readValue_X5 hown hK hP 0 rfl rfl 0 (of_decide_eq_true rfl) (hts (.fieldLink RX5 12 "ShortEnough$Parser" "words" "LShortEnough$Words;") zw_X5_readValue_449) (fun _ h9 => h9) rfl dX5_readValue_74 ?_
        refine va_get (D := (dC, dI)) (ci := 10) (v := .int s_2.2.2.2.1) (C := RX10) (T := TX10) (N := 8) hx hb hts zn_X5_readValue_X10 hown hK hP 1 rfl rfl 6 (of_decide_eq_true rfl) (hts (.fieldLink RX5 138 "ShortEnough$Words" "value" "I") zw_X5_readValue_456) (fun _ h9 => h9) rfl dX5_readValue_77 ?_
        refine lv_ineg hx hb dX5_readValue_80 ?_
        refine lv_goto (tgt := 91) hx hb dX5_readValue_81 (of_decide_eq_true rfl) ?_
        exact jp_4 (-s_2.2.2.2.1) H locs ls hfn hP hD hS (lv_sub hl [1, 2, 3, 4] rfl)
      have hfn := (if_neg c_3).symm.trans hfn
      refine lv_aload_n hx hb dX5_readValue_55 rfl (lv_at hl 2 rfl) ?_
      refine lv_iconst (v := 1) hx hb dX5_readValue_56 zci_1 ?_
      refine lv_aload_n hx hb dX5_readValue_57 rfl (lv_at hl 2 rfl) ?_
      refine va_get (D := (dC, dI)) (ci := 5) (v := .ref r0_0) (C := RX5) (T := TX5) (N := 4) hx hb hts zn_X5_readValue_X5 hown hK hP 0 rfl rfl 0 (of_decide_eq_true rfl) (hts (.fieldLink RX5 12 "ShortEnough$Parser" "words" "LShortEnough$Words;") zw_X5_readValue_449) (fun _ h9 => h9) rfl dX5_readValue_58 ?_
      refine va_get (D := (dC, dI)) (ci := 10) (v := .int s_2.2.2.1) (C := RX10) (T := TX10) (N := 8) hx hb hts zn_X5_readValue_X10 hown hK hP 1 rfl rfl 5 (of_decide_eq_true rfl) (hts (.fieldLink RX5 64 "ShortEnough$Words" "start" "I") zw_X5_readValue_451) (fun _ h9 => h9) rfl dX5_readValue_61 ?_
      obtain ⟨o_20, hqo_20, hfn⟩ := zb_s hfn
      refine zcVb (ci := 5) (rest := []) (pc' := 67) (ws' := [zV5 h0 r0_0 v0_1 o_20.2.1 o_20.2.2, zV10 r0_0 r1_0 r1_1 v1_2 s_2.1 s_2.2.1 s_2.2.2.1 s_2.2.2.2.1 s_2.2.2.2.2, zVi r1_1 k2 1200 f2, zVi r1_0 k3 13 f3]) hP hK hD hS hA ⟨hx, hb, hml, hown, hts⟩ (zf_X5_stopAt l dC dI h0 1 s_2.2.2.1 r0_0 v0_1 v0_2 v0_3 o_20 hqo_20 H.size) (cwV 2 hts gX5_readValue_X5_stopAt rfl rfl rfl zhd_X5_stopAt ⟨Nat.le_of_ble_eq_true rfl, Nat.le_of_ble_eq_true rfl⟩) [0] rfl (of_decide_eq_true rfl) [] rfl rfl rfl rfl hl.1 rfl (Nat.le_of_ble_eq_true rfl) dX5_readValue_64 ⟨Nat.le_of_ble_eq_true rfl, Nat.le_of_ble_eq_true rfl⟩ [some 0] (of_decide_eq_true rfl) (of_decide_eq_true rfl) rfl rfl rfl (fun H locs hw_23n hP hD hS => ?_)
      have ho := Option.some.inj hfn
      subst ho
      exact zrz hx hb hr hw_23n hK hP hD hS hQ ⟨rfl, hw_23n⟩ hlocks dX5_readValue_67
    refine lv_if_eq (tgt := 44) hx hb dX5_readValue_34 (of_decide_eq_true rfl) (fun c_24 => ?_) (fun c_24 => ?_)
    · have hfn := (if_pos c_24).symm.trans hfn
      exact jp_2 (v1_3, v1_4, v1_5, v1_6, v1_7) H locs ls hfn hP hD hS (lv_sub hl [0, 1, 2, 3, 4] rfl)
    have hfn := (if_neg c_24).symm.trans hfn
    refine lv_aload_n hx hb dX5_readValue_37 rfl (lv_at hl 2 rfl) ?_
    refine va_get (D := (dC, dI)) (ci := 5) (v := .ref r0_0) (C := RX5) (T := TX5) (N := 4) hx hb hts zn_X5_readValue_X5 hown hK hP 0 rfl rfl 0 (of_decide_eq_true rfl) (hts (.fieldLink RX5 12 "ShortEnough$Parser" "words" "LShortEnough$Words;") zw_X5_readValue_449) (fun _ h9 => h9) rfl dX5_readValue_38 ?_
    obtain ⟨o_25, hqo_25, hfn⟩ := zb_s hfn
    refine zcVv (ci := 10) (rest := []) (pc' := 44) (ws' := [zV5 h0 r0_0 v0_1 v0_2 v0_3, zV10 r0_0 r1_0 r1_1 v1_2 o_25.1 o_25.2.1 o_25.2.2.1 o_25.2.2.2.1 o_25.2.2.2.2, zVi r1_1 k2 1200 f2, zVi r1_0 k3 13 f3]) hP hK hD hS hA ⟨hx, hb, hml, hown, hts⟩ (zf_X10_advance l dC dI r0_0 r1_0 r1_1 v1_2 v1_3 v1_4 v1_5 v1_6 v1_7 k2 f2 k3 f3 o_25 hqo_25 H.size) (cwV 0 hts gX5_readValue_X10_advance rfl rfl rfl zhd_X10_advance ⟨Nat.le_of_ble_eq_true rfl, Nat.le_of_ble_eq_true rfl⟩) [1, 2, 3] rfl (of_decide_eq_true rfl) [0, 1] rfl rfl rfl rfl hl.1 rfl (Nat.le_of_ble_eq_true rfl) dX5_readValue_41 ⟨Nat.le_of_ble_eq_true rfl, Nat.le_of_ble_eq_true rfl⟩ [none, some 0, some 1, some 2] (of_decide_eq_true rfl) (of_decide_eq_true rfl) rfl rfl rfl (fun H locs hP hD hS => ?_)
    exact jp_2 (o_25.1, o_25.2.1, o_25.2.2.1, o_25.2.2.2.1, o_25.2.2.2.2) H locs ls hfn hP hD hS (lv_sub hl [0, 1, 2, 3, 4] rfl)
  obtain ⟨j_29, ej_29, hfn⟩ := zj_g hfn
  have jp_29 : ∀ (s_29 : Unit) (H : Heap) (locs : List Loc) (ls : Array Slot), j_29 s_29 = some o → va_P (dC, dI) vwCl [zV5 h0 r0_0 v0_1 v0_2 v0_3, zV10 r0_0 r1_0 r1_1 v1_2 v1_3 v1_4 v1_5 v1_6 v1_7, zVi r1_1 k2 1200 f2, zVi r1_0 k3 13 f3] H → va_D A [zV5 h0 r0_0 v0_1 v0_2 v0_3, zV10 r0_0 r1_0 r1_1 v1_2 v1_3 v1_4 v1_5 v1_6 v1_7, zVi r1_1 k2 1200 f2, zVi r1_0 k3 13 f3] → va_S A s.heap H locs → lv_has ls 7 [(4, .int v1_5), (0, .ref h0), (2, .int p2), (3, .int p3)] → W p l e (headSpec wsX5_readValue ({ frames := 2, cells := 0, slots := 0, locals := 46 })).room s m ([.ref h0, .int p1, .int p2, .int p3] : List Value).toArray below meth c H locs 0 0 Q (F0 m 29 ls []) := by
    intro s_29 H locs ls hfn hP hD hS hl
    have hfn := zj_s ej_29 hfn
    refine lv_iconst (v := 0) hx hb dX5_readValue_29 zci_0 ?_
    exact jp_1 0 H locs ls hfn hP hD hS (lv_sub hl [0, 1, 2, 3] rfl)
  refine lv_if_eq (tgt := 29) hx hb dX5_readValue_10 (of_decide_eq_true rfl) (fun c_30 => ?_) (fun c_30 => ?_)
  · have hfn := (if_pos c_30).symm.trans hfn
    exact jp_29 () s.heap [] ls hfn hP hD hS (lv_sub hl [0, 1, 3, 4] rfl)
  have hfn := (if_neg c_30).symm.trans hfn
  refine lv_aload_n hx hb dX5_readValue_13 rfl (lv_at hl 1 rfl) ?_
  refine va_get (D := (dC, dI)) (ci := 5) (v := .ref r0_0) (C := RX5) (T := TX5) (N := 4) hx hb hts zn_X5_readValue_X5 hown hK hP 0 rfl rfl 0 (of_decide_eq_true rfl) (hts (.fieldLink RX5 12 "ShortEnough$Parser" "words" "LShortEnough$Words;") zw_X5_readValue_449) (fun _ h9 => h9) rfl dX5_readValue_14 ?_
  refine lv_bipush (v := 45) hx hb dX5_readValue_17 zcb_45 ?_
  obtain ⟨o_31, hqo_31, hfn⟩ := zb_s hfn
  refine zcVb (ci := 10) (rest := []) (pc' := 22) (ws' := [zV5 h0 r0_0 v0_1 v0_2 v0_3, zV10 r0_0 r1_0 r1_1 v1_2 v1_3 v1_4 v1_5 v1_6 v1_7, zVi r1_1 k2 1200 f2, zVi r1_0 k3 13 f3]) hP hK hD hS hA ⟨hx, hb, hml, hown, hts⟩ (zf_X10_isSign l dC dI r0_0 45 r1_0 r1_1 v1_2 v1_3 v1_4 v1_5 v1_6 v1_7 o_31 hqo_31 s.heap.size) (cwV 1 hts gX5_readValue_X10_isSign rfl rfl rfl zhd_X10_isSign ⟨Nat.le_of_ble_eq_true rfl, Nat.le_of_ble_eq_true rfl⟩) [1] rfl (of_decide_eq_true rfl) [] rfl rfl rfl rfl hl.1 rfl (Nat.le_of_ble_eq_true rfl) dX5_readValue_19 ⟨Nat.le_of_ble_eq_true rfl, Nat.le_of_ble_eq_true rfl⟩ [none, some 0] (of_decide_eq_true rfl) (of_decide_eq_true rfl) rfl rfl rfl (fun H locs hw_34n hP hD hS => ?_)
  refine lv_if_eq (tgt := 29) hx hb dX5_readValue_22 (of_decide_eq_true rfl) (fun c_35 => ?_) (fun c_35 => ?_)
  · have hfn := (if_pos c_35).symm.trans hfn
    exact jp_29 () H locs ls hfn hP hD hS (lv_sub hl [0, 1, 3, 4] rfl)
  have hfn := (if_neg c_35).symm.trans hfn
  refine lv_iconst (v := 1) hx hb dX5_readValue_25 zci_1 ?_
  refine lv_goto (tgt := 30) hx hb dX5_readValue_26 (of_decide_eq_true rfl) ?_
  exact jp_1 1 H locs ls hfn hP hD hS (lv_sub hl [0, 1, 3, 4] rfl)
theorem zn_X9_addFormat_X9 : ∀ w ∈ wsX90, w ∈ wsX9_addFormat := fun _ h => List.mem_cons_of_mem _ (List.mem_append_right _ h)
theorem zw_X9_addFormat_460 : Cond.fieldLink RX9 45 "ShortEnough$Task" "formats" "I" ∈ wsX9_addFormat := List.mem_of_getElem? (i := 1) (by decide +kernel)
theorem zw_X9_addFormat_461 : Cond.fieldLink RX9 9 "ShortEnough$Task" "formatName" "[I" ∈ wsX9_addFormat := List.mem_of_getElem? (i := 2) (by decide +kernel)
theorem zw_X9_addFormat_462 : Cond.fieldLink RX9 15 "ShortEnough$Task" "step" "[I" ∈ wsX9_addFormat := List.mem_of_getElem? (i := 3) (by decide +kernel)
theorem zw_X9_addFormat_463 : Cond.fieldLink RX9 18 "ShortEnough$Task" "most" "[I" ∈ wsX9_addFormat := List.mem_of_getElem? (i := 4) (by decide +kernel)
theorem zw_X9_addFormat_464 : Cond.fieldLink RX9 21 "ShortEnough$Task" "price" "[I" ∈ wsX9_addFormat := List.mem_of_getElem? (i := 5) (by decide +kernel)
set_option maxHeartbeats 4000000 in
set_option maxRecDepth 100000 in
theorem zf_X9_addFormat (l : Launch) (dC : Nat → ClassId) (dI : Nat → Nat → Nat) (h0 : Nat) (p1 : Int32) (p2 : Int32) (p3 : Int32) (p4 : Int32) (v0_0 : Int32) (r0_1 : Nat) (r0_2 : Nat) (r0_3 : Nat) (r0_4 : Nat) (v0_5 : Int32) (r0_6 : Nat) (r0_7 : Nat) (r0_8 : Nat) (k1 : Nat) (f1 : Nat → Int32) (k2 : Nat) (f2 : Nat → Int32) (k3 : Nat) (f3 : Nat → Int32) (k4 : Nat) (f4 : Nat → Int32) (o : Int32 × (Nat → Int32) × (Nat → Int32) × (Nat → Int32) × (Nat → Int32)) (hfn : fn_X9_addFormat p1 p2 p3 p4 v0_0 f1 f2 f3 f4 = some o) (sz : Nat) : zMv l yX9_addFormat wsX9_addFormat ({ frames := 0, cells := 0, slots := 0, locals := 0 }) (dC, dI) vwCl [.ref h0, .int p1, .int p2, .int p3, .int p4] [zV9 h0 v0_0 r0_1 r0_2 r0_3 r0_4 v0_5 r0_6 r0_7 r0_8, zVi r0_1 k1 4 f1, zVi r0_2 k2 4 f2, zVi r0_3 k3 4 f3, zVi r0_4 k4 4 f4] [(k1, .int), (k2, .int), (k3, .int), (k4, .int)] (fun _ => True) [zV9 h0 o.1 r0_1 r0_2 r0_3 r0_4 v0_5 r0_6 r0_7 r0_8, zVi r0_1 k1 4 o.2.1, zVi r0_2 k2 4 o.2.2.1, zVi r0_3 k3 4 o.2.2.2.1, zVi r0_4 k4 4 o.2.2.2.2] [(k1, .int), (k2, .int), (k3, .int), (k4, .int)] sz := by
  refine zgov (cc := cX9_addFormat) (maxL := 5) (ret := none) (C0 := RX9) (lv0 := [(0, .ref h0), (1, .int p1), (2, .int p2), (3, .int p3), (4, .int p4)]) zpl_X9 rfl rfl rfl (Nat.le_of_ble_eq_true rfl) ?_
  intro p e s m below meth c A ls Q hx hb hr hts hown hlocks hml hP hK hD hA hS hl hQ
  unfold fn_X9_addFormat at hfn
  refine lv_aload_n hx hb dX9_addFormat_0 rfl (lv_at hl 0 rfl) ?_
  refine va_get (D := (dC, dI)) (ci := 9) (v := .int v0_0) (C := RX9) (T := TX9) (N := 9) hx hb hts zn_X9_addFormat_X9 hown hK hP 0 rfl rfl 0 (of_decide_eq_true rfl) (hts (.fieldLink RX9 45 "ShortEnough$Task" "formats" "I") zw_X9_addFormat_460) (fun _ h9 => h9) rfl dX9_addFormat_1 ?_
  refine lv_iconst (v := 4) hx hb dX9_addFormat_4 zci_4 ?_
  refine lv_icmp_ge (tgt := 59) hx hb dX9_addFormat_5 (of_decide_eq_true rfl) (fun c_1 => ?_) (fun c_1 => ?_)
  · have hfn := (if_pos c_1).symm.trans hfn
    have ho := Option.some.inj hfn
    subst ho
    exact zrv hx hb hr hK hP hD hS hQ trivial hlocks dX9_addFormat_59
  have hfn := (if_neg c_1).symm.trans hfn
  refine lv_aload_n hx hb dX9_addFormat_8 rfl (lv_at hl 0 rfl) ?_
  refine va_get (D := (dC, dI)) (ci := 9) (v := .ref r0_1) (C := RX9) (T := TX9) (N := 9) hx hb hts zn_X9_addFormat_X9 hown hK hP 0 rfl rfl 1 (of_decide_eq_true rfl) (hts (.fieldLink RX9 9 "ShortEnough$Task" "formatName" "[I") zw_X9_addFormat_461) (fun _ h9 => h9) rfl dX9_addFormat_9 ?_
  refine lv_aload_n hx hb dX9_addFormat_12 rfl (lv_at hl 0 rfl) ?_
  refine va_get (D := (dC, dI)) (ci := 9) (v := .int v0_0) (C := RX9) (T := TX9) (N := 9) hx hb hts zn_X9_addFormat_X9 hown hK hP 0 rfl rfl 0 (of_decide_eq_true rfl) (hts (.fieldLink RX9 45 "ShortEnough$Task" "formats" "I") zw_X9_addFormat_460) (fun _ h9 => h9) rfl dX9_addFormat_13 ?_
  refine lv_iload_n hx hb dX9_addFormat_16 rfl (lv_at hl 1 rfl) ?_
  obtain ⟨h_2, hfn⟩ := zg_s hfn
  refine va_iast hx hb hK hP hD hS 1 0 rfl rfl h_2 dX9_addFormat_17 (fun H locs hP hD hS => ?_)
  have hP : va_P (dC, dI) vwCl [zV9 h0 v0_0 r0_1 r0_2 r0_3 r0_4 v0_5 r0_6 r0_7 r0_8, zVi r0_1 k1 4 (upd f1 v0_0.toNatClampNeg p1), zVi r0_2 k2 4 f2, zVi r0_3 k3 4 f3, zVi r0_4 k4 4 f4] H := hP
  have hD := zDW hD hP rfl
  refine lv_aload_n hx hb dX9_addFormat_18 rfl (lv_at hl 0 rfl) ?_
  refine va_get (D := (dC, dI)) (ci := 9) (v := .ref r0_2) (C := RX9) (T := TX9) (N := 9) hx hb hts zn_X9_addFormat_X9 hown hK hP 0 rfl rfl 2 (of_decide_eq_true rfl) (hts (.fieldLink RX9 15 "ShortEnough$Task" "step" "[I") zw_X9_addFormat_462) (fun _ h9 => h9) rfl dX9_addFormat_19 ?_
  refine lv_aload_n hx hb dX9_addFormat_22 rfl (lv_at hl 0 rfl) ?_
  refine va_get (D := (dC, dI)) (ci := 9) (v := .int v0_0) (C := RX9) (T := TX9) (N := 9) hx hb hts zn_X9_addFormat_X9 hown hK hP 0 rfl rfl 0 (of_decide_eq_true rfl) (hts (.fieldLink RX9 45 "ShortEnough$Task" "formats" "I") zw_X9_addFormat_460) (fun _ h9 => h9) rfl dX9_addFormat_23 ?_
  refine lv_iload_n hx hb dX9_addFormat_26 rfl (lv_at hl 2 rfl) ?_
  refine va_iast hx hb hK hP hD hS 2 1 rfl rfl h_2 dX9_addFormat_27 (fun H locs hP hD hS => ?_)
  have hP : va_P (dC, dI) vwCl [zV9 h0 v0_0 r0_1 r0_2 r0_3 r0_4 v0_5 r0_6 r0_7 r0_8, zVi r0_1 k1 4 (upd f1 v0_0.toNatClampNeg p1), zVi r0_2 k2 4 (upd f2 v0_0.toNatClampNeg p2), zVi r0_3 k3 4 f3, zVi r0_4 k4 4 f4] H := hP
  have hD := zDW hD hP rfl
  refine lv_aload_n hx hb dX9_addFormat_28 rfl (lv_at hl 0 rfl) ?_
  refine va_get (D := (dC, dI)) (ci := 9) (v := .ref r0_3) (C := RX9) (T := TX9) (N := 9) hx hb hts zn_X9_addFormat_X9 hown hK hP 0 rfl rfl 3 (of_decide_eq_true rfl) (hts (.fieldLink RX9 18 "ShortEnough$Task" "most" "[I") zw_X9_addFormat_463) (fun _ h9 => h9) rfl dX9_addFormat_29 ?_
  refine lv_aload_n hx hb dX9_addFormat_32 rfl (lv_at hl 0 rfl) ?_
  refine va_get (D := (dC, dI)) (ci := 9) (v := .int v0_0) (C := RX9) (T := TX9) (N := 9) hx hb hts zn_X9_addFormat_X9 hown hK hP 0 rfl rfl 0 (of_decide_eq_true rfl) (hts (.fieldLink RX9 45 "ShortEnough$Task" "formats" "I") zw_X9_addFormat_460) (fun _ h9 => h9) rfl dX9_addFormat_33 ?_
  refine lv_iload_n hx hb dX9_addFormat_36 rfl (lv_at hl 3 rfl) ?_
  refine va_iast hx hb hK hP hD hS 3 2 rfl rfl h_2 dX9_addFormat_37 (fun H locs hP hD hS => ?_)
  have hP : va_P (dC, dI) vwCl [zV9 h0 v0_0 r0_1 r0_2 r0_3 r0_4 v0_5 r0_6 r0_7 r0_8, zVi r0_1 k1 4 (upd f1 v0_0.toNatClampNeg p1), zVi r0_2 k2 4 (upd f2 v0_0.toNatClampNeg p2), zVi r0_3 k3 4 (upd f3 v0_0.toNatClampNeg p3), zVi r0_4 k4 4 f4] H := hP
  have hD := zDW hD hP rfl
  refine lv_aload_n hx hb dX9_addFormat_38 rfl (lv_at hl 0 rfl) ?_
  refine va_get (D := (dC, dI)) (ci := 9) (v := .ref r0_4) (C := RX9) (T := TX9) (N := 9) hx hb hts zn_X9_addFormat_X9 hown hK hP 0 rfl rfl 4 (of_decide_eq_true rfl) (hts (.fieldLink RX9 21 "ShortEnough$Task" "price" "[I") zw_X9_addFormat_464) (fun _ h9 => h9) rfl dX9_addFormat_39 ?_
  refine lv_aload_n hx hb dX9_addFormat_42 rfl (lv_at hl 0 rfl) ?_
  refine va_get (D := (dC, dI)) (ci := 9) (v := .int v0_0) (C := RX9) (T := TX9) (N := 9) hx hb hts zn_X9_addFormat_X9 hown hK hP 0 rfl rfl 0 (of_decide_eq_true rfl) (hts (.fieldLink RX9 45 "ShortEnough$Task" "formats" "I") zw_X9_addFormat_460) (fun _ h9 => h9) rfl dX9_addFormat_43 ?_
  refine lv_iload hx hb dX9_addFormat_46 (lv_at hl 4 rfl) ?_
  refine va_iast hx hb hK hP hD hS 4 3 rfl rfl h_2 dX9_addFormat_48 (fun H locs hP hD hS => ?_)
  have hP : va_P (dC, dI) vwCl [zV9 h0 v0_0 r0_1 r0_2 r0_3 r0_4 v0_5 r0_6 r0_7 r0_8, zVi r0_1 k1 4 (upd f1 v0_0.toNatClampNeg p1), zVi r0_2 k2 4 (upd f2 v0_0.toNatClampNeg p2), zVi r0_3 k3 4 (upd f3 v0_0.toNatClampNeg p3), zVi r0_4 k4 4 (upd f4 v0_0.toNatClampNeg p4)] H := hP
  have hD := zDW hD hP rfl
  refine lv_aload_n hx hb dX9_addFormat_49 rfl (lv_at hl 0 rfl) ?_
  refine lv_dup hx hb dX9_addFormat_50 rfl ?_
  refine va_get (D := (dC, dI)) (ci := 9) (v := .int v0_0) (C := RX9) (T := TX9) (N := 9) hx hb hts zn_X9_addFormat_X9 hown hK hP 0 rfl rfl 0 (of_decide_eq_true rfl) (hts (.fieldLink RX9 45 "ShortEnough$Task" "formats" "I") zw_X9_addFormat_460) (fun _ h9 => h9) rfl dX9_addFormat_51 ?_
  refine lv_iconst (v := 1) hx hb dX9_addFormat_54 zci_1 ?_
  refine lv_iadd hx hb dX9_addFormat_55 ?_
  refine va_put (D := (dC, dI)) (ci := 9) (v := .int (v0_0 + 1)) (ty := .int) (C := RX9) (T := TX9) (N := 9) hx hb hts zn_X9_addFormat_X9 tyX9 tyX9_ok nmX9 hown hK hP hD hS 0 rfl rfl 0 (of_decide_eq_true rfl) (hts (.fieldLink RX9 45 "ShortEnough$Task" "formats" "I") zw_X9_addFormat_460) (fun _ h9 => h9) rfl (tyX9_ok 0 (of_decide_eq_true rfl)) rfl rfl (Nat.le_of_ble_eq_true rfl) dX9_addFormat_56 (fun H locs hP hD hS => ?_)
  have hP : va_P (dC, dI) vwCl [zV9 h0 (v0_0 + 1) r0_1 r0_2 r0_3 r0_4 v0_5 r0_6 r0_7 r0_8, zVi r0_1 k1 4 (upd f1 v0_0.toNatClampNeg p1), zVi r0_2 k2 4 (upd f2 v0_0.toNatClampNeg p2), zVi r0_3 k3 4 (upd f3 v0_0.toNatClampNeg p3), zVi r0_4 k4 4 (upd f4 v0_0.toNatClampNeg p4)] H := hP
  have hD := zDW hD hP rfl
  have ho := Option.some.inj hfn
  subst ho
  exact zrv hx hb hr hK hP hD hS hQ trivial hlocks dX9_addFormat_59
theorem zn_X5_readFormat_X5 : ∀ w ∈ wsX50, w ∈ wsX5_readFormat := fun _ h => List.mem_cons_of_mem _ (List.mem_append_left _ (List.mem_append_left _ (List.mem_append_left _ (List.mem_append_right _ h))))
theorem zw_X5_readFormat_439 : Cond.fieldLink RX5 102 "ShortEnough$Parser" "got" "I" ∈ wsX5_readFormat := List.mem_of_getElem? (i := 1) (by decide +kernel)
theorem zw_X5_readFormat_447 : Cond.constant RX5 108 (1000000) ∈ wsX5_readFormat := List.mem_of_getElem? (i := 2) (by decide +kernel)
theorem zw_X5_readFormat_458 : Cond.constant RX5 113 (1000000000) ∈ wsX5_readFormat := List.mem_of_getElem? (i := 3) (by decide +kernel)
set_option maxHeartbeats 4000000 in
set_option maxRecDepth 100000 in
theorem zf_X5_readFormat (l : Launch) (dC : Nat → ClassId) (dI : Nat → Nat → Nat) (h0 : Nat) (h1 : Nat) (r0_0 : Nat) (v0_1 : Int32) (v0_2 : Int32) (v0_3 : Int32) (r1_0 : Nat) (r1_1 : Nat) (v1_2 : Int32) (v1_3 : Int32) (v1_4 : Int32) (v1_5 : Int32) (v1_6 : Int32) (v1_7 : Int32) (v2_0 : Int32) (r2_1 : Nat) (r2_2 : Nat) (r2_3 : Nat) (r2_4 : Nat) (v2_5 : Int32) (r2_6 : Nat) (r2_7 : Nat) (r2_8 : Nat) (k3 : Nat) (f3 : Nat → Int32) (v4_0 : Int32) (v4_1 : Int32) (r4_2 : Nat) (r4_3 : Nat) (r4_4 : Nat) (r4_5 : Nat) (r4_6 : Nat) (r4_7 : Nat) (r4_8 : Nat) (r4_9 : Nat) (k5 : Nat) (f5 : Nat → Int32) (k6 : Nat) (f6 : Nat → Int32) (k7 : Nat) (f7 : Nat → Int32) (k8 : Nat) (f8 : Nat → Int32) (k9 : Nat) (f9 : Nat → Int32) (k10 : Nat) (f10 : Nat → Int32) (o : Int32 × Int32 × Int32 × Int32 × Int32 × Int32 × Int32 × Int32 × Int32 × Int32 × (Nat → Int32) × (Nat → Int32) × (Nat → Int32) × (Nat → Int32)) (hfn : fn_X5_readFormat v0_1 v0_2 v0_3 v1_2 v1_3 v1_4 v1_5 v1_6 v1_7 v2_0 f3 v4_0 f5 f6 f7 f8 f9 f10 = some o) (sz : Nat) : zMi l yX5_readFormat wsX5_readFormat ({ frames := 3, cells := 0, slots := 0, locals := 72 }) (dC, dI) vwCl [.ref h0, .ref h1] [zV5 h0 r0_0 v0_1 v0_2 v0_3, zV10 r0_0 r1_0 r1_1 v1_2 v1_3 v1_4 v1_5 v1_6 v1_7, zV9 h1 v2_0 r2_1 r2_2 r2_3 r2_4 v2_5 r2_6 r2_7 r2_8, zVi r2_1 k3 4 f3, zV4 r2_6 v4_0 v4_1 r4_2 r4_3 r4_4 r4_5 r4_6 r4_7 r4_8 r4_9, zVi r4_2 k5 14 f5, zVi r1_1 k6 1200 f6, zVi r1_0 k7 13 f7, zVi r2_2 k8 4 f8, zVi r2_3 k9 4 f9, zVi r2_4 k10 4 f10] [(k3, .int), (k5, .int), (k6, .byte), (k7, .int), (k8, .int), (k9, .int), (k10, .int)] (fun r _ => r = o.1 ∧ narrow .boolean (.int o.1) = .int o.1) [zV5 h0 r0_0 o.2.1 o.2.2.1 o.2.2.2.1, zV10 r0_0 r1_0 r1_1 v1_2 o.2.2.2.2.1 o.2.2.2.2.2.1 o.2.2.2.2.2.2.1 o.2.2.2.2.2.2.2.1 o.2.2.2.2.2.2.2.2.1, zV9 h1 o.2.2.2.2.2.2.2.2.2.1 r2_1 r2_2 r2_3 r2_4 v2_5 r2_6 r2_7 r2_8, zVi r2_1 k3 4 o.2.2.2.2.2.2.2.2.2.2.1, zV4 r2_6 v4_0 v4_1 r4_2 r4_3 r4_4 r4_5 r4_6 r4_7 r4_8 r4_9, zVi r4_2 k5 14 f5, zVi r1_1 k6 1200 f6, zVi r1_0 k7 13 f7, zVi r2_2 k8 4 o.2.2.2.2.2.2.2.2.2.2.2.1, zVi r2_3 k9 4 o.2.2.2.2.2.2.2.2.2.2.2.2.1, zVi r2_4 k10 4 o.2.2.2.2.2.2.2.2.2.2.2.2.2] [(k3, .int), (k5, .int), (k6, .byte), (k7, .int), (k8, .int), (k9, .int), (k10, .int)] sz := by
  refine zgoi (cc := cX5_readFormat) (maxL := 5) (ret := (some .boolean)) (C0 := RX5) (lv0 := [(0, .ref h0), (1, .ref h1)]) zpl_X5 rfl rfl rfl (Nat.le_of_ble_eq_true rfl) ?_
  intro p e s m below meth c A ls Q hx hb hr hts hown hlocks hml hP hK hD hA hS hl hQ
  unfold fn_X5_readFormat at hfn
  refine lv_aload_n hx hb dX5_readFormat_0 rfl (lv_at hl 0 rfl) ?_
  refine lv_aload_n hx hb dX5_readFormat_1 rfl (lv_at hl 1 rfl) ?_
  obtain ⟨o_1, hqo_1, hfn⟩ := zb_s hfn
  refine zcVb (ci := 5) (rest := []) (pc' := 5) (ws' := [zV5 h0 r0_0 o_1.2.1 o_1.2.2.1 o_1.2.2.2.1, zV10 r0_0 r1_0 r1_1 v1_2 o_1.2.2.2.2.1 o_1.2.2.2.2.2.1 o_1.2.2.2.2.2.2.1 o_1.2.2.2.2.2.2.2.1 o_1.2.2.2.2.2.2.2.2, zV9 h1 v2_0 r2_1 r2_2 r2_3 r2_4 v2_5 r2_6 r2_7 r2_8, zVi r2_1 k3 4 f3, zV4 r2_6 v4_0 v4_1 r4_2 r4_3 r4_4 r4_5 r4_6 r4_7 r4_8 r4_9, zVi r4_2 k5 14 f5, zVi r1_1 k6 1200 f6, zVi r1_0 k7 13 f7, zVi r2_2 k8 4 f8, zVi r2_3 k9 4 f9, zVi r2_4 k10 4 f10]) hP hK hD hS hA ⟨hx, hb, hml, hown, hts⟩ (zf_X5_readNewName l dC dI h0 h1 r0_0 v0_1 v0_2 v0_3 r1_0 r1_1 v1_2 v1_3 v1_4 v1_5 v1_6 v1_7 v2_0 r2_1 r2_2 r2_3 r2_4 v2_5 r2_6 r2_7 r2_8 k3 f3 v4_0 v4_1 r4_2 r4_3 r4_4 r4_5 r4_6 r4_7 r4_8 r4_9 k5 f5 k6 f6 k7 f7 o_1 hqo_1 s.heap.size) (cwV 1 hts gX5_readFormat_X5_readNewName rfl rfl rfl zhd_X5_readNewName ⟨Nat.le_of_ble_eq_true rfl, Nat.le_of_ble_eq_true rfl⟩) [0, 1, 2, 3, 4, 5, 6, 7] rfl (of_decide_eq_true rfl) [0, 1, 2, 3] rfl rfl rfl rfl hl.1 rfl (Nat.le_of_ble_eq_true rfl) dX5_readFormat_2 ⟨Nat.le_of_ble_eq_true rfl, Nat.le_of_ble_eq_true rfl⟩ [some 0, some 1, some 2, some 3, some 4, some 5, some 6, some 7] (of_decide_eq_true rfl) (of_decide_eq_true rfl) rfl rfl rfl (fun H locs hw_4n hP hD hS => ?_)
  refine lv_if_ne (tgt := 10) hx hb dX5_readFormat_5 (of_decide_eq_true rfl) (fun c_5 => ?_) (fun c_5 => ?_)
  · have hfn := (if_neg c_5).symm.trans hfn
    refine lv_aload_n hx hb dX5_readFormat_10 rfl (lv_at hl 0 rfl) ?_
    refine va_get (D := (dC, dI)) (ci := 5) (v := .int o_1.2.1) (C := RX5) (T := TX5) (N := 4) hx hb hts zn_X5_readFormat_X5 hown hK hP 0 rfl rfl 1 (of_decide_eq_true rfl) (hts (.fieldLink RX5 102 "ShortEnough$Parser" "got" "I") zw_X5_readFormat_439) (fun _ h9 => h9) rfl dX5_readFormat_11 ?_
    refine lv_istore_n (lv' := [(2, .int o_1.2.1), (0, .ref h0), (1, .ref h1)]) hx hb dX5_readFormat_14 rfl hl (of_decide_eq_true rfl) rfl (fun ls hl => ?_)
    refine lv_aload_n hx hb dX5_readFormat_15 rfl (lv_at hl 1 rfl) ?_
    refine lv_iconst (v := 1) hx hb dX5_readFormat_16 zci_1 ?_
    obtain ⟨o_6, hqo_6, hfn⟩ := zb_s hfn
    refine zcVb (ci := 5) (rest := []) (pc' := 20) (ws' := [zV5 h0 r0_0 o_1.2.1 o_6.2.1 o_6.2.2.1, zV10 r0_0 r1_0 r1_1 v1_2 o_6.2.2.2.1 o_6.2.2.2.2.1 o_6.2.2.2.2.2.1 o_6.2.2.2.2.2.2.1 o_6.2.2.2.2.2.2.2, zV9 h1 v2_0 r2_1 r2_2 r2_3 r2_4 v2_5 r2_6 r2_7 r2_8, zVi r2_1 k3 4 f3, zV4 r2_6 v4_0 v4_1 r4_2 r4_3 r4_4 r4_5 r4_6 r4_7 r4_8 r4_9, zVi r4_2 k5 14 f5, zVi r1_1 k6 1200 f6, zVi r1_0 k7 13 f7, zVi r2_2 k8 4 f8, zVi r2_3 k9 4 f9, zVi r2_4 k10 4 f10]) hP hK hD hS hA ⟨hx, hb, hml, hown, hts⟩ (zf_X5_readOwn l dC dI h0 1 r0_0 o_1.2.1 o_1.2.2.1 o_1.2.2.2.1 r1_0 r1_1 v1_2 o_1.2.2.2.2.1 o_1.2.2.2.2.2.1 o_1.2.2.2.2.2.2.1 o_1.2.2.2.2.2.2.2.1 o_1.2.2.2.2.2.2.2.2 k6 f6 k7 f7 o_6 hqo_6 H.size) (cwV 1 hts gX5_readFormat_X5_readOwn rfl rfl rfl zhd_X5_readOwn ⟨Nat.le_of_ble_eq_true rfl, Nat.le_of_ble_eq_true rfl⟩) [0, 1, 6, 7] rfl (of_decide_eq_true rfl) [2, 3] rfl rfl rfl rfl hl.1 rfl (Nat.le_of_ble_eq_true rfl) dX5_readFormat_17 ⟨Nat.le_of_ble_eq_true rfl, Nat.le_of_ble_eq_true rfl⟩ [some 0, some 1, none, none, none, none, some 2, some 3] (of_decide_eq_true rfl) (of_decide_eq_true rfl) rfl rfl rfl (fun H locs hw_9n hP hD hS => ?_)
    refine lv_if_eq (tgt := 34) hx hb dX5_readFormat_20 (of_decide_eq_true rfl) (fun c_10 => ?_) (fun c_10 => ?_)
    · have hfn := (if_pos c_10).symm.trans hfn
      refine lv_iconst (v := 0) hx hb dX5_readFormat_34 zci_0 ?_
      have ho := Option.some.inj hfn
      subst ho
      exact zrz hx hb hr rfl hK hP hD hS hQ ⟨rfl, zB0⟩ hlocks dX5_readFormat_35
    have hfn := (if_neg c_10).symm.trans hfn
    refine lv_aload_n hx hb dX5_readFormat_23 rfl (lv_at hl 1 rfl) ?_
    refine lv_iconst (v := 0) hx hb dX5_readFormat_24 zci_0 ?_
    refine lv_iconst (v := 1) hx hb dX5_readFormat_25 zci_1 ?_
    refine lv_ldc (v := 1000000) hx hb hown (hts (.constant RX5 108 (1000000)) zw_X5_readFormat_447) dX5_readFormat_26 ?_
    obtain ⟨o_11, hqo_11, hfn⟩ := zb_s hfn
    refine zcVb (ci := 5) (rest := []) (pc' := 31) (ws' := [zV5 h0 r0_0 o_11.2.1 o_11.2.2.1 o_11.2.2.2.1, zV10 r0_0 r1_0 r1_1 v1_2 o_11.2.2.2.2.1 o_11.2.2.2.2.2.1 o_11.2.2.2.2.2.2.1 o_11.2.2.2.2.2.2.2.1 o_11.2.2.2.2.2.2.2.2, zV9 h1 v2_0 r2_1 r2_2 r2_3 r2_4 v2_5 r2_6 r2_7 r2_8, zVi r2_1 k3 4 f3, zV4 r2_6 v4_0 v4_1 r4_2 r4_3 r4_4 r4_5 r4_6 r4_7 r4_8 r4_9, zVi r4_2 k5 14 f5, zVi r1_1 k6 1200 f6, zVi r1_0 k7 13 f7, zVi r2_2 k8 4 f8, zVi r2_3 k9 4 f9, zVi r2_4 k10 4 f10]) hP hK hD hS hA ⟨hx, hb, hml, hown, hts⟩ (zf_X5_readValue l dC dI h0 0 1 1000000 r0_0 o_1.2.1 o_6.2.1 o_6.2.2.1 r1_0 r1_1 v1_2 o_6.2.2.2.1 o_6.2.2.2.2.1 o_6.2.2.2.2.2.1 o_6.2.2.2.2.2.2.1 o_6.2.2.2.2.2.2.2 k6 f6 k7 f7 o_11 hqo_11 H.size) (cwV 3 hts gX5_readFormat_X5_readValue rfl rfl rfl zhd_X5_readValue ⟨Nat.le_of_ble_eq_true rfl, Nat.le_of_ble_eq_true rfl⟩) [0, 1, 6, 7] rfl (of_decide_eq_true rfl) [2, 3] rfl rfl rfl rfl hl.1 rfl (Nat.le_of_ble_eq_true rfl) dX5_readFormat_28 ⟨Nat.le_of_ble_eq_true rfl, Nat.le_of_ble_eq_true rfl⟩ [some 0, some 1, none, none, none, none, some 2, some 3] (of_decide_eq_true rfl) (of_decide_eq_true rfl) rfl rfl rfl (fun H locs hw_14n hP hD hS => ?_)
    refine lv_if_ne (tgt := 36) hx hb dX5_readFormat_31 (of_decide_eq_true rfl) (fun c_15 => ?_) (fun c_15 => ?_)
    · have hfn := (if_neg c_15).symm.trans hfn
      refine lv_aload_n hx hb dX5_readFormat_36 rfl (lv_at hl 1 rfl) ?_
      refine va_get (D := (dC, dI)) (ci := 5) (v := .int o_11.2.1) (C := RX5) (T := TX5) (N := 4) hx hb hts zn_X5_readFormat_X5 hown hK hP 0 rfl rfl 1 (of_decide_eq_true rfl) (hts (.fieldLink RX5 102 "ShortEnough$Parser" "got" "I") zw_X5_readFormat_439) (fun _ h9 => h9) rfl dX5_readFormat_37 ?_
      refine lv_istore_n (lv' := [(3, .int o_11.2.1), (2, .int o_1.2.1), (0, .ref h0), (1, .ref h1)]) hx hb dX5_readFormat_40 rfl hl (of_decide_eq_true rfl) rfl (fun ls hl => ?_)
      refine lv_aload_n hx hb dX5_readFormat_41 rfl (lv_at hl 2 rfl) ?_
      refine lv_iconst (v := 2) hx hb dX5_readFormat_42 zci_2 ?_
      obtain ⟨o_16, hqo_16, hfn⟩ := zb_s hfn
      refine zcVb (ci := 5) (rest := []) (pc' := 46) (ws' := [zV5 h0 r0_0 o_11.2.1 o_16.2.1 o_16.2.2.1, zV10 r0_0 r1_0 r1_1 v1_2 o_16.2.2.2.1 o_16.2.2.2.2.1 o_16.2.2.2.2.2.1 o_16.2.2.2.2.2.2.1 o_16.2.2.2.2.2.2.2, zV9 h1 v2_0 r2_1 r2_2 r2_3 r2_4 v2_5 r2_6 r2_7 r2_8, zVi r2_1 k3 4 f3, zV4 r2_6 v4_0 v4_1 r4_2 r4_3 r4_4 r4_5 r4_6 r4_7 r4_8 r4_9, zVi r4_2 k5 14 f5, zVi r1_1 k6 1200 f6, zVi r1_0 k7 13 f7, zVi r2_2 k8 4 f8, zVi r2_3 k9 4 f9, zVi r2_4 k10 4 f10]) hP hK hD hS hA ⟨hx, hb, hml, hown, hts⟩ (zf_X5_readOwn l dC dI h0 2 r0_0 o_11.2.1 o_11.2.2.1 o_11.2.2.2.1 r1_0 r1_1 v1_2 o_11.2.2.2.2.1 o_11.2.2.2.2.2.1 o_11.2.2.2.2.2.2.1 o_11.2.2.2.2.2.2.2.1 o_11.2.2.2.2.2.2.2.2 k6 f6 k7 f7 o_16 hqo_16 H.size) (cwV 1 hts gX5_readFormat_X5_readOwn rfl rfl rfl zhd_X5_readOwn ⟨Nat.le_of_ble_eq_true rfl, Nat.le_of_ble_eq_true rfl⟩) [0, 1, 6, 7] rfl (of_decide_eq_true rfl) [2, 3] rfl rfl rfl rfl hl.1 rfl (Nat.le_of_ble_eq_true rfl) dX5_readFormat_43 ⟨Nat.le_of_ble_eq_true rfl, Nat.le_of_ble_eq_true rfl⟩ [some 0, some 1, none, none, none, none, some 2, some 3] (of_decide_eq_true rfl) (of_decide_eq_true rfl) rfl rfl rfl (fun H locs hw_19n hP hD hS => ?_)
      refine lv_if_eq (tgt := 60) hx hb dX5_readFormat_46 (of_decide_eq_true rfl) (fun c_20 => ?_) (fun c_20 => ?_)
      · have hfn := (if_pos c_20).symm.trans hfn
        refine lv_iconst (v := 0) hx hb dX5_readFormat_60 zci_0 ?_
        have ho := Option.some.inj hfn
        subst ho
        exact zrz hx hb hr rfl hK hP hD hS hQ ⟨rfl, zB0⟩ hlocks dX5_readFormat_61
      have hfn := (if_neg c_20).symm.trans hfn
      refine lv_aload_n hx hb dX5_readFormat_49 rfl (lv_at hl 2 rfl) ?_
      refine lv_iconst (v := 0) hx hb dX5_readFormat_50 zci_0 ?_
      refine lv_iconst (v := 1) hx hb dX5_readFormat_51 zci_1 ?_
      refine lv_ldc (v := 1000000000) hx hb hown (hts (.constant RX5 113 (1000000000)) zw_X5_readFormat_458) dX5_readFormat_52 ?_
      obtain ⟨o_21, hqo_21, hfn⟩ := zb_s hfn
      refine zcVb (ci := 5) (rest := []) (pc' := 57) (ws' := [zV5 h0 r0_0 o_21.2.1 o_21.2.2.1 o_21.2.2.2.1, zV10 r0_0 r1_0 r1_1 v1_2 o_21.2.2.2.2.1 o_21.2.2.2.2.2.1 o_21.2.2.2.2.2.2.1 o_21.2.2.2.2.2.2.2.1 o_21.2.2.2.2.2.2.2.2, zV9 h1 v2_0 r2_1 r2_2 r2_3 r2_4 v2_5 r2_6 r2_7 r2_8, zVi r2_1 k3 4 f3, zV4 r2_6 v4_0 v4_1 r4_2 r4_3 r4_4 r4_5 r4_6 r4_7 r4_8 r4_9, zVi r4_2 k5 14 f5, zVi r1_1 k6 1200 f6, zVi r1_0 k7 13 f7, zVi r2_2 k8 4 f8, zVi r2_3 k9 4 f9, zVi r2_4 k10 4 f10]) hP hK hD hS hA ⟨hx, hb, hml, hown, hts⟩ (zf_X5_readValue l dC dI h0 0 1 1000000000 r0_0 o_11.2.1 o_16.2.1 o_16.2.2.1 r1_0 r1_1 v1_2 o_16.2.2.2.1 o_16.2.2.2.2.1 o_16.2.2.2.2.2.1 o_16.2.2.2.2.2.2.1 o_16.2.2.2.2.2.2.2 k6 f6 k7 f7 o_21 hqo_21 H.size) (cwV 3 hts gX5_readFormat_X5_readValue rfl rfl rfl zhd_X5_readValue ⟨Nat.le_of_ble_eq_true rfl, Nat.le_of_ble_eq_true rfl⟩) [0, 1, 6, 7] rfl (of_decide_eq_true rfl) [2, 3] rfl rfl rfl rfl hl.1 rfl (Nat.le_of_ble_eq_true rfl) dX5_readFormat_54 ⟨Nat.le_of_ble_eq_true rfl, Nat.le_of_ble_eq_true rfl⟩ [some 0, some 1, none, none, none, none, some 2, some 3] (of_decide_eq_true rfl) (of_decide_eq_true rfl) rfl rfl rfl (fun H locs hw_24n hP hD hS => ?_)
      refine lv_if_ne (tgt := 62) hx hb dX5_readFormat_57 (of_decide_eq_true rfl) (fun c_25 => ?_) (fun c_25 => ?_)
      · have hfn := (if_neg c_25).symm.trans hfn
        refine lv_aload_n hx hb dX5_readFormat_62 rfl (lv_at hl 2 rfl) ?_
        refine va_get (D := (dC, dI)) (ci := 5) (v := .int o_21.2.1) (C := RX5) (T := TX5) (N := 4) hx hb hts zn_X5_readFormat_X5 hown hK hP 0 rfl rfl 1 (of_decide_eq_true rfl) (hts (.fieldLink RX5 102 "ShortEnough$Parser" "got" "I") zw_X5_readFormat_439) (fun _ h9 => h9) rfl dX5_readFormat_63 ?_
        refine lv_istore (lv' := [(4, .int o_21.2.1), (3, .int o_11.2.1), (2, .int o_1.2.1), (0, .ref h0), (1, .ref h1)]) hx hb dX5_readFormat_66 hl (of_decide_eq_true rfl) rfl (fun ls hl => ?_)
        refine lv_aload_n hx hb dX5_readFormat_68 rfl (lv_at hl 3 rfl) ?_
        refine lv_iconst (v := 3) hx hb dX5_readFormat_69 zci_3 ?_
        obtain ⟨o_26, hqo_26, hfn⟩ := zb_s hfn
        refine zcVb (ci := 5) (rest := []) (pc' := 73) (ws' := [zV5 h0 r0_0 o_21.2.1 o_26.2.1 o_26.2.2.1, zV10 r0_0 r1_0 r1_1 v1_2 o_26.2.2.2.1 o_26.2.2.2.2.1 o_26.2.2.2.2.2.1 o_26.2.2.2.2.2.2.1 o_26.2.2.2.2.2.2.2, zV9 h1 v2_0 r2_1 r2_2 r2_3 r2_4 v2_5 r2_6 r2_7 r2_8, zVi r2_1 k3 4 f3, zV4 r2_6 v4_0 v4_1 r4_2 r4_3 r4_4 r4_5 r4_6 r4_7 r4_8 r4_9, zVi r4_2 k5 14 f5, zVi r1_1 k6 1200 f6, zVi r1_0 k7 13 f7, zVi r2_2 k8 4 f8, zVi r2_3 k9 4 f9, zVi r2_4 k10 4 f10]) hP hK hD hS hA ⟨hx, hb, hml, hown, hts⟩ (zf_X5_readOwn l dC dI h0 3 r0_0 o_21.2.1 o_21.2.2.1 o_21.2.2.2.1 r1_0 r1_1 v1_2 o_21.2.2.2.2.1 o_21.2.2.2.2.2.1 o_21.2.2.2.2.2.2.1 o_21.2.2.2.2.2.2.2.1 o_21.2.2.2.2.2.2.2.2 k6 f6 k7 f7 o_26 hqo_26 H.size) (cwV 1 hts gX5_readFormat_X5_readOwn rfl rfl rfl zhd_X5_readOwn ⟨Nat.le_of_ble_eq_true rfl, Nat.le_of_ble_eq_true rfl⟩) [0, 1, 6, 7] rfl (of_decide_eq_true rfl) [2, 3] rfl rfl rfl rfl hl.1 rfl (Nat.le_of_ble_eq_true rfl) dX5_readFormat_70 ⟨Nat.le_of_ble_eq_true rfl, Nat.le_of_ble_eq_true rfl⟩ [some 0, some 1, none, none, none, none, some 2, some 3] (of_decide_eq_true rfl) (of_decide_eq_true rfl) rfl rfl rfl (fun H locs hw_29n hP hD hS => ?_)
        refine lv_if_eq (tgt := 88) hx hb dX5_readFormat_73 (of_decide_eq_true rfl) (fun c_30 => ?_) (fun c_30 => ?_)
        · have hfn := (if_pos c_30).symm.trans hfn
          refine lv_iconst (v := 0) hx hb dX5_readFormat_88 zci_0 ?_
          have ho := Option.some.inj hfn
          subst ho
          exact zrz hx hb hr rfl hK hP hD hS hQ ⟨rfl, zB0⟩ hlocks dX5_readFormat_89
        have hfn := (if_neg c_30).symm.trans hfn
        refine lv_aload_n hx hb dX5_readFormat_76 rfl (lv_at hl 3 rfl) ?_
        refine lv_iconst (v := 0) hx hb dX5_readFormat_77 zci_0 ?_
        refine lv_iconst (v := 0) hx hb dX5_readFormat_78 zci_0 ?_
        refine lv_sipush (v := 999) hx hb dX5_readFormat_79 zcs_999 ?_
        obtain ⟨o_31, hqo_31, hfn⟩ := zb_s hfn
        refine zcVb (ci := 5) (rest := []) (pc' := 85) (ws' := [zV5 h0 r0_0 o_31.2.1 o_31.2.2.1 o_31.2.2.2.1, zV10 r0_0 r1_0 r1_1 v1_2 o_31.2.2.2.2.1 o_31.2.2.2.2.2.1 o_31.2.2.2.2.2.2.1 o_31.2.2.2.2.2.2.2.1 o_31.2.2.2.2.2.2.2.2, zV9 h1 v2_0 r2_1 r2_2 r2_3 r2_4 v2_5 r2_6 r2_7 r2_8, zVi r2_1 k3 4 f3, zV4 r2_6 v4_0 v4_1 r4_2 r4_3 r4_4 r4_5 r4_6 r4_7 r4_8 r4_9, zVi r4_2 k5 14 f5, zVi r1_1 k6 1200 f6, zVi r1_0 k7 13 f7, zVi r2_2 k8 4 f8, zVi r2_3 k9 4 f9, zVi r2_4 k10 4 f10]) hP hK hD hS hA ⟨hx, hb, hml, hown, hts⟩ (zf_X5_readValue l dC dI h0 0 0 999 r0_0 o_21.2.1 o_26.2.1 o_26.2.2.1 r1_0 r1_1 v1_2 o_26.2.2.2.1 o_26.2.2.2.2.1 o_26.2.2.2.2.2.1 o_26.2.2.2.2.2.2.1 o_26.2.2.2.2.2.2.2 k6 f6 k7 f7 o_31 hqo_31 H.size) (cwV 3 hts gX5_readFormat_X5_readValue rfl rfl rfl zhd_X5_readValue ⟨Nat.le_of_ble_eq_true rfl, Nat.le_of_ble_eq_true rfl⟩) [0, 1, 6, 7] rfl (of_decide_eq_true rfl) [2, 3] rfl rfl rfl rfl hl.1 rfl (Nat.le_of_ble_eq_true rfl) dX5_readFormat_82 ⟨Nat.le_of_ble_eq_true rfl, Nat.le_of_ble_eq_true rfl⟩ [some 0, some 1, none, none, none, none, some 2, some 3] (of_decide_eq_true rfl) (of_decide_eq_true rfl) rfl rfl rfl (fun H locs hw_34n hP hD hS => ?_)
        refine lv_if_ne (tgt := 90) hx hb dX5_readFormat_85 (of_decide_eq_true rfl) (fun c_35 => ?_) (fun c_35 => ?_)
        · have hfn := (if_neg c_35).symm.trans hfn
          refine lv_aload_n hx hb dX5_readFormat_90 rfl (lv_at hl 4 rfl) ?_
          refine lv_iload_n hx hb dX5_readFormat_91 rfl (lv_at hl 2 rfl) ?_
          refine lv_iload_n hx hb dX5_readFormat_92 rfl (lv_at hl 1 rfl) ?_
          refine lv_iload hx hb dX5_readFormat_93 (lv_at hl 0 rfl) ?_
          refine lv_aload_n hx hb dX5_readFormat_95 rfl (lv_at hl 3 rfl) ?_
          refine va_get (D := (dC, dI)) (ci := 5) (v := .int o_31.2.1) (C := RX5) (T := TX5) (N := 4) hx hb hts zn_X5_readFormat_X5 hown hK hP 0 rfl rfl 1 (of_decide_eq_true rfl) (hts (.fieldLink RX5 102 "ShortEnough$Parser" "got" "I") zw_X5_readFormat_439) (fun _ h9 => h9) rfl dX5_readFormat_96 ?_
          obtain ⟨o_36, hqo_36, hfn⟩ := zb_s hfn
          refine zcVv (ci := 9) (rest := []) (pc' := 102) (ws' := [zV5 h0 r0_0 o_31.2.1 o_31.2.2.1 o_31.2.2.2.1, zV10 r0_0 r1_0 r1_1 v1_2 o_31.2.2.2.2.1 o_31.2.2.2.2.2.1 o_31.2.2.2.2.2.2.1 o_31.2.2.2.2.2.2.2.1 o_31.2.2.2.2.2.2.2.2, zV9 h1 o_36.1 r2_1 r2_2 r2_3 r2_4 v2_5 r2_6 r2_7 r2_8, zVi r2_1 k3 4 o_36.2.1, zV4 r2_6 v4_0 v4_1 r4_2 r4_3 r4_4 r4_5 r4_6 r4_7 r4_8 r4_9, zVi r4_2 k5 14 f5, zVi r1_1 k6 1200 f6, zVi r1_0 k7 13 f7, zVi r2_2 k8 4 o_36.2.2.1, zVi r2_3 k9 4 o_36.2.2.2.1, zVi r2_4 k10 4 o_36.2.2.2.2]) hP hK hD hS hA ⟨hx, hb, hml, hown, hts⟩ (zf_X9_addFormat l dC dI h1 o_1.2.1 o_11.2.1 o_21.2.1 o_31.2.1 v2_0 r2_1 r2_2 r2_3 r2_4 v2_5 r2_6 r2_7 r2_8 k3 f3 k8 f8 k9 f9 k10 f10 o_36 hqo_36 H.size) (cwV 4 hts gX5_readFormat_X9_addFormat rfl rfl rfl zhd_X9_addFormat ⟨Nat.le_of_ble_eq_true rfl, Nat.le_of_ble_eq_true rfl⟩) [2, 3, 8, 9, 10] rfl (of_decide_eq_true rfl) [0, 4, 5, 6] rfl rfl rfl rfl hl.1 rfl (Nat.le_of_ble_eq_true rfl) dX5_readFormat_99 ⟨Nat.le_of_ble_eq_true rfl, Nat.le_of_ble_eq_true rfl⟩ [none, none, some 0, some 1, none, none, none, none, some 2, some 3, some 4] (of_decide_eq_true rfl) (of_decide_eq_true rfl) rfl rfl rfl (fun H locs hP hD hS => ?_)
          refine lv_iconst (v := 1) hx hb dX5_readFormat_102 zci_1 ?_
          have ho := Option.some.inj hfn
          subst ho
          exact zrz hx hb hr rfl hK hP hD hS hQ ⟨rfl, zB1⟩ hlocks dX5_readFormat_103
        have hfn := (if_pos c_35).symm.trans hfn
        refine lv_iconst (v := 0) hx hb dX5_readFormat_88 zci_0 ?_
        have ho := Option.some.inj hfn
        subst ho
        exact zrz hx hb hr rfl hK hP hD hS hQ ⟨rfl, zB0⟩ hlocks dX5_readFormat_89
      have hfn := (if_pos c_25).symm.trans hfn
      refine lv_iconst (v := 0) hx hb dX5_readFormat_60 zci_0 ?_
      have ho := Option.some.inj hfn
      subst ho
      exact zrz hx hb hr rfl hK hP hD hS hQ ⟨rfl, zB0⟩ hlocks dX5_readFormat_61
    have hfn := (if_pos c_15).symm.trans hfn
    refine lv_iconst (v := 0) hx hb dX5_readFormat_34 zci_0 ?_
    have ho := Option.some.inj hfn
    subst ho
    exact zrz hx hb hr rfl hK hP hD hS hQ ⟨rfl, zB0⟩ hlocks dX5_readFormat_35
  have hfn := (if_pos c_5).symm.trans hfn
  refine lv_iconst (v := 0) hx hb dX5_readFormat_8 zci_0 ?_
  have ho := Option.some.inj hfn
  subst ho
  exact zrz hx hb hr rfl hK hP hD hS hQ ⟨rfl, zB0⟩ hlocks dX5_readFormat_9
theorem zn_X5_readKnown_X5 : ∀ w ∈ wsX50, w ∈ wsX5_readKnown := fun _ h => List.mem_cons_of_mem _ (List.mem_append_left _ (List.mem_append_right _ h))
theorem zw_X5_readKnown_472 : Cond.fieldLink RX5 12 "ShortEnough$Parser" "words" "LShortEnough$Words;" ∈ wsX5_readKnown := List.mem_of_getElem? (i := 1) (by decide +kernel)
theorem zw_X5_readKnown_473 : Cond.fieldLink RX5 102 "ShortEnough$Parser" "got" "I" ∈ wsX5_readKnown := List.mem_of_getElem? (i := 3) (by decide +kernel)
theorem zn_X5_readKnown_X10 : ∀ w ∈ wsX100, w ∈ wsX5_readKnown := fun _ h => List.mem_cons_of_mem _ (List.mem_append_right _ h)
theorem zw_X5_readKnown_475 : Cond.fieldLink RX5 64 "ShortEnough$Words" "start" "I" ∈ wsX5_readKnown := List.mem_of_getElem? (i := 2) (by decide +kernel)
set_option maxHeartbeats 4000000 in
set_option maxRecDepth 100000 in
theorem zf_X5_readKnown (l : Launch) (dC : Nat → ClassId) (dI : Nat → Nat → Nat) (h0 : Nat) (p1 : Int32) (r0_0 : Nat) (v0_1 : Int32) (v0_2 : Int32) (v0_3 : Int32) (r1_0 : Nat) (r1_1 : Nat) (v1_2 : Int32) (v1_3 : Int32) (v1_4 : Int32) (v1_5 : Int32) (v1_6 : Int32) (v1_7 : Int32) (k2 : Nat) (f2 : Nat → Int32) (k3 : Nat) (f3 : Nat → Int32) (o : Int32 × Int32 × Int32 × Int32 × Int32 × Int32 × Int32 × Int32 × Int32) (hfn : fn_X5_readKnown p1 v0_1 v0_2 v0_3 v1_2 v1_3 v1_4 v1_5 v1_6 v1_7 f2 f3 = some o) (sz : Nat) : zMi l yX5_readKnown wsX5_readKnown ({ frames := 2, cells := 0, slots := 0, locals := 46 }) (dC, dI) vwCl [.ref h0, .int p1] [zV5 h0 r0_0 v0_1 v0_2 v0_3, zV10 r0_0 r1_0 r1_1 v1_2 v1_3 v1_4 v1_5 v1_6 v1_7, zVi r1_1 k2 1200 f2, zVi r1_0 k3 13 f3] [(k2, .byte), (k3, .int)] (fun r _ => r = o.1 ∧ narrow .boolean (.int o.1) = .int o.1) [zV5 h0 r0_0 o.2.1 o.2.2.1 o.2.2.2.1, zV10 r0_0 r1_0 r1_1 v1_2 o.2.2.2.2.1 o.2.2.2.2.2.1 o.2.2.2.2.2.2.1 o.2.2.2.2.2.2.2.1 o.2.2.2.2.2.2.2.2, zVi r1_1 k2 1200 f2, zVi r1_0 k3 13 f3] [(k2, .byte), (k3, .int)] sz := by
  refine zgoi (cc := cX5_readKnown) (maxL := 2) (ret := (some .boolean)) (C0 := RX5) (lv0 := [(0, .ref h0), (1, .int p1)]) zpl_X5 rfl rfl rfl (Nat.le_of_ble_eq_true rfl) ?_
  intro p e s m below meth c A ls Q hx hb hr hts hown hlocks hml hP hK hD hA hS hl hQ
  unfold fn_X5_readKnown at hfn
  refine lv_aload_n hx hb dX5_readKnown_0 rfl (lv_at hl 0 rfl) ?_
  refine va_get (D := (dC, dI)) (ci := 5) (v := .ref r0_0) (C := RX5) (T := TX5) (N := 4) hx hb hts zn_X5_readKnown_X5 hown hK hP 0 rfl rfl 0 (of_decide_eq_true rfl) (hts (.fieldLink RX5 12 "ShortEnough$Parser" "words" "LShortEnough$Words;") zw_X5_readKnown_472) (fun _ h9 => h9) rfl dX5_readKnown_1 ?_
  obtain ⟨o_1, hqo_1, hfn⟩ := zb_s hfn
  refine zcVb (ci := 10) (rest := []) (pc' := 7) (ws' := [zV5 h0 r0_0 v0_1 v0_2 v0_3, zV10 r0_0 r1_0 r1_1 v1_2 v1_3 v1_4 v1_5 v1_6 v1_7, zVi r1_1 k2 1200 f2, zVi r1_0 k3 13 f3]) hP hK hD hS hA ⟨hx, hb, hml, hown, hts⟩ (zf_X10_isName l dC dI r0_0 r1_0 r1_1 v1_2 v1_3 v1_4 v1_5 v1_6 v1_7 o_1 hqo_1 s.heap.size) (cwV 0 hts gX5_readKnown_X10_isName rfl rfl rfl zhd_X10_isName ⟨Nat.le_of_ble_eq_true rfl, Nat.le_of_ble_eq_true rfl⟩) [1] rfl (of_decide_eq_true rfl) [] rfl rfl rfl rfl hl.1 rfl (Nat.le_of_ble_eq_true rfl) dX5_readKnown_4 ⟨Nat.le_of_ble_eq_true rfl, Nat.le_of_ble_eq_true rfl⟩ [none, some 0] (of_decide_eq_true rfl) (of_decide_eq_true rfl) rfl rfl rfl (fun H locs hw_4n hP hD hS => ?_)
  refine lv_if_ne (tgt := 23) hx hb dX5_readKnown_7 (of_decide_eq_true rfl) (fun c_5 => ?_) (fun c_5 => ?_)
  · have hfn := (if_neg c_5).symm.trans hfn
    refine lv_iload_n hx hb dX5_readKnown_23 rfl (lv_at hl 1 rfl) ?_
    refine lv_iconst (v := (-1)) hx hb dX5_readKnown_24 zci_m1 ?_
    refine lv_icmp_ne (tgt := 41) hx hb dX5_readKnown_25 (of_decide_eq_true rfl) (fun c_6 => ?_) (fun c_6 => ?_)
    · have hfn := (if_neg c_6).symm.trans hfn
      refine lv_aload_n hx hb dX5_readKnown_41 rfl (lv_at hl 0 rfl) ?_
      refine lv_iload_n hx hb dX5_readKnown_42 rfl (lv_at hl 1 rfl) ?_
      refine va_put (D := (dC, dI)) (ci := 5) (v := .int p1) (ty := .int) (C := RX5) (T := TX5) (N := 4) hx hb hts zn_X5_readKnown_X5 tyX5 tyX5_ok nmX5 hown hK hP hD hS 0 rfl rfl 1 (of_decide_eq_true rfl) (hts (.fieldLink RX5 102 "ShortEnough$Parser" "got" "I") zw_X5_readKnown_473) (fun _ h9 => h9) rfl (tyX5_ok 1 (of_decide_eq_true rfl)) rfl rfl (Nat.le_of_ble_eq_true rfl) dX5_readKnown_43 (fun H locs hP hD hS => ?_)
      have hP : va_P (dC, dI) vwCl [zV5 h0 r0_0 p1 v0_2 v0_3, zV10 r0_0 r1_0 r1_1 v1_2 v1_3 v1_4 v1_5 v1_6 v1_7, zVi r1_1 k2 1200 f2, zVi r1_0 k3 13 f3] H := hP
      have hD := zDW hD hP rfl
      refine lv_aload_n hx hb dX5_readKnown_46 rfl (lv_at hl 0 rfl) ?_
      refine va_get (D := (dC, dI)) (ci := 5) (v := .ref r0_0) (C := RX5) (T := TX5) (N := 4) hx hb hts zn_X5_readKnown_X5 hown hK hP 0 rfl rfl 0 (of_decide_eq_true rfl) (hts (.fieldLink RX5 12 "ShortEnough$Parser" "words" "LShortEnough$Words;") zw_X5_readKnown_472) (fun _ h9 => h9) rfl dX5_readKnown_47 ?_
      obtain ⟨o_7, hqo_7, hfn⟩ := zb_s hfn
      refine zcVv (ci := 10) (rest := []) (pc' := 53) (ws' := [zV5 h0 r0_0 p1 v0_2 v0_3, zV10 r0_0 r1_0 r1_1 v1_2 o_7.1 o_7.2.1 o_7.2.2.1 o_7.2.2.2.1 o_7.2.2.2.2, zVi r1_1 k2 1200 f2, zVi r1_0 k3 13 f3]) hP hK hD hS hA ⟨hx, hb, hml, hown, hts⟩ (zf_X10_advance l dC dI r0_0 r1_0 r1_1 v1_2 v1_3 v1_4 v1_5 v1_6 v1_7 k2 f2 k3 f3 o_7 hqo_7 H.size) (cwV 0 hts gX5_readKnown_X10_advance rfl rfl rfl zhd_X10_advance ⟨Nat.le_of_ble_eq_true rfl, Nat.le_of_ble_eq_true rfl⟩) [1, 2, 3] rfl (of_decide_eq_true rfl) [0, 1] rfl rfl rfl rfl hl.1 rfl (Nat.le_of_ble_eq_true rfl) dX5_readKnown_50 ⟨Nat.le_of_ble_eq_true rfl, Nat.le_of_ble_eq_true rfl⟩ [none, some 0, some 1, some 2] (of_decide_eq_true rfl) (of_decide_eq_true rfl) rfl rfl rfl (fun H locs hP hD hS => ?_)
      refine lv_iconst (v := 1) hx hb dX5_readKnown_53 zci_1 ?_
      have ho := Option.some.inj hfn
      subst ho
      exact zrz hx hb hr rfl hK hP hD hS hQ ⟨rfl, zB1⟩ hlocks dX5_readKnown_54
    have hfn := (if_pos c_6).symm.trans hfn
    refine lv_aload_n hx hb dX5_readKnown_28 rfl (lv_at hl 0 rfl) ?_
    refine lv_iconst (v := 3) hx hb dX5_readKnown_29 zci_3 ?_
    refine lv_aload_n hx hb dX5_readKnown_30 rfl (lv_at hl 0 rfl) ?_
    refine va_get (D := (dC, dI)) (ci := 5) (v := .ref r0_0) (C := RX5) (T := TX5) (N := 4) hx hb hts zn_X5_readKnown_X5 hown hK hP 0 rfl rfl 0 (of_decide_eq_true rfl) (hts (.fieldLink RX5 12 "ShortEnough$Parser" "words" "LShortEnough$Words;") zw_X5_readKnown_472) (fun _ h9 => h9) rfl dX5_readKnown_31 ?_
    refine va_get (D := (dC, dI)) (ci := 10) (v := .int v1_5) (C := RX10) (T := TX10) (N := 8) hx hb hts zn_X5_readKnown_X10 hown hK hP 1 rfl rfl 5 (of_decide_eq_true rfl) (hts (.fieldLink RX5 64 "ShortEnough$Words" "start" "I") zw_X5_readKnown_475) (fun _ h9 => h9) rfl dX5_readKnown_34 ?_
    obtain ⟨o_11, hqo_11, hfn⟩ := zb_s hfn
    refine zcVb (ci := 5) (rest := []) (pc' := 40) (ws' := [zV5 h0 r0_0 v0_1 o_11.2.1 o_11.2.2, zV10 r0_0 r1_0 r1_1 v1_2 v1_3 v1_4 v1_5 v1_6 v1_7, zVi r1_1 k2 1200 f2, zVi r1_0 k3 13 f3]) hP hK hD hS hA ⟨hx, hb, hml, hown, hts⟩ (zf_X5_stopAt l dC dI h0 3 v1_5 r0_0 v0_1 v0_2 v0_3 o_11 hqo_11 H.size) (cwV 2 hts gX5_readKnown_X5_stopAt rfl rfl rfl zhd_X5_stopAt ⟨Nat.le_of_ble_eq_true rfl, Nat.le_of_ble_eq_true rfl⟩) [0] rfl (of_decide_eq_true rfl) [] rfl rfl rfl rfl hl.1 rfl (Nat.le_of_ble_eq_true rfl) dX5_readKnown_37 ⟨Nat.le_of_ble_eq_true rfl, Nat.le_of_ble_eq_true rfl⟩ [some 0] (of_decide_eq_true rfl) (of_decide_eq_true rfl) rfl rfl rfl (fun H locs hw_14n hP hD hS => ?_)
    have ho := Option.some.inj hfn
    subst ho
    exact zrz hx hb hr hw_14n hK hP hD hS hQ ⟨rfl, hw_14n⟩ hlocks dX5_readKnown_40
  have hfn := (if_pos c_5).symm.trans hfn
  refine lv_aload_n hx hb dX5_readKnown_10 rfl (lv_at hl 0 rfl) ?_
  refine lv_iconst (v := 1) hx hb dX5_readKnown_11 zci_1 ?_
  refine lv_aload_n hx hb dX5_readKnown_12 rfl (lv_at hl 0 rfl) ?_
  refine va_get (D := (dC, dI)) (ci := 5) (v := .ref r0_0) (C := RX5) (T := TX5) (N := 4) hx hb hts zn_X5_readKnown_X5 hown hK hP 0 rfl rfl 0 (of_decide_eq_true rfl) (hts (.fieldLink RX5 12 "ShortEnough$Parser" "words" "LShortEnough$Words;") zw_X5_readKnown_472) (fun _ h9 => h9) rfl dX5_readKnown_13 ?_
  refine va_get (D := (dC, dI)) (ci := 10) (v := .int v1_5) (C := RX10) (T := TX10) (N := 8) hx hb hts zn_X5_readKnown_X10 hown hK hP 1 rfl rfl 5 (of_decide_eq_true rfl) (hts (.fieldLink RX5 64 "ShortEnough$Words" "start" "I") zw_X5_readKnown_475) (fun _ h9 => h9) rfl dX5_readKnown_16 ?_
  obtain ⟨o_15, hqo_15, hfn⟩ := zb_s hfn
  refine zcVb (ci := 5) (rest := []) (pc' := 22) (ws' := [zV5 h0 r0_0 v0_1 o_15.2.1 o_15.2.2, zV10 r0_0 r1_0 r1_1 v1_2 v1_3 v1_4 v1_5 v1_6 v1_7, zVi r1_1 k2 1200 f2, zVi r1_0 k3 13 f3]) hP hK hD hS hA ⟨hx, hb, hml, hown, hts⟩ (zf_X5_stopAt l dC dI h0 1 v1_5 r0_0 v0_1 v0_2 v0_3 o_15 hqo_15 H.size) (cwV 2 hts gX5_readKnown_X5_stopAt rfl rfl rfl zhd_X5_stopAt ⟨Nat.le_of_ble_eq_true rfl, Nat.le_of_ble_eq_true rfl⟩) [0] rfl (of_decide_eq_true rfl) [] rfl rfl rfl rfl hl.1 rfl (Nat.le_of_ble_eq_true rfl) dX5_readKnown_19 ⟨Nat.le_of_ble_eq_true rfl, Nat.le_of_ble_eq_true rfl⟩ [some 0] (of_decide_eq_true rfl) (of_decide_eq_true rfl) rfl rfl rfl (fun H locs hw_18n hP hD hS => ?_)
  have ho := Option.some.inj hfn
  subst ho
  exact zrz hx hb hr hw_18n hK hP hD hS hQ ⟨rfl, hw_18n⟩ hlocks dX5_readKnown_22
theorem zn_X5_readAnswer_X9 : ∀ w ∈ wsX90, w ∈ wsX5_readAnswer := fun _ h => List.mem_cons_of_mem _ (List.mem_append_left _ (List.mem_append_left _ (List.mem_append_left _ (List.mem_append_right _ h))))
theorem zw_X5_readAnswer_466 : Cond.fieldLink RX5 44 "ShortEnough$Task" "numbers" "LShortEnough$Numbers;" ∈ wsX5_readAnswer := List.mem_of_getElem? (i := 1) (by decide +kernel)
theorem zn_X5_readAnswer_X5 : ∀ w ∈ wsX50, w ∈ wsX5_readAnswer := fun _ h => List.mem_cons_of_mem _ (List.mem_append_left _ (List.mem_append_left _ (List.mem_append_right _ h)))
theorem zw_X5_readAnswer_468 : Cond.fieldLink RX5 12 "ShortEnough$Parser" "words" "LShortEnough$Words;" ∈ wsX5_readAnswer := List.mem_of_getElem? (i := 2) (by decide +kernel)
theorem zn_X5_readAnswer_X10 : ∀ w ∈ wsX100, w ∈ wsX5_readAnswer := fun _ h => List.mem_cons_of_mem _ (List.mem_append_left _ (List.mem_append_right _ h))
theorem zw_X5_readAnswer_470 : Cond.fieldLink RX5 138 "ShortEnough$Words" "value" "I" ∈ wsX5_readAnswer := List.mem_of_getElem? (i := 3) (by decide +kernel)
theorem zw_X5_readAnswer_476 : Cond.fieldLink RX5 102 "ShortEnough$Parser" "got" "I" ∈ wsX5_readAnswer := List.mem_of_getElem? (i := 4) (by decide +kernel)
theorem zw_X5_readAnswer_477 : Cond.constant RX5 108 (1000000) ∈ wsX5_readAnswer := List.mem_of_getElem? (i := 5) (by decide +kernel)
set_option maxHeartbeats 4000000 in
set_option maxRecDepth 100000 in
theorem zf_X5_readAnswer (l : Launch) (dC : Nat → ClassId) (dI : Nat → Nat → Nat) (h0 : Nat) (h1 : Nat) (r0_0 : Nat) (v0_1 : Int32) (v0_2 : Int32) (v0_3 : Int32) (v1_0 : Int32) (r1_1 : Nat) (r1_2 : Nat) (r1_3 : Nat) (r1_4 : Nat) (v1_5 : Int32) (r1_6 : Nat) (r1_7 : Nat) (r1_8 : Nat) (r2_0 : Nat) (r2_1 : Nat) (v2_2 : Int32) (v2_3 : Int32) (v2_4 : Int32) (v2_5 : Int32) (v2_6 : Int32) (v2_7 : Int32) (v3_0 : Int32) (v3_1 : Int32) (r3_2 : Nat) (r3_3 : Nat) (r3_4 : Nat) (r3_5 : Nat) (r3_6 : Nat) (r3_7 : Nat) (r3_8 : Nat) (r3_9 : Nat) (k4 : Nat) (f4 : Nat → Int32) (k5 : Nat) (f5 : Nat → Int32) (k6 : Nat) (f6 : Nat → Int32) (k7 : Nat) (f7 : Nat → Int32) (o : Int32 × Int32 × Int32 × Int32 × Int32 × Int32 × Int32 × Int32 × Int32 × (Nat → Int32)) (hfn : fn_X5_readAnswer v0_1 v0_2 v0_3 v2_2 v2_3 v2_4 v2_5 v2_6 v2_7 v3_0 f4 f5 f6 f7 = some o) (sz : Nat) : zMi l yX5_readAnswer wsX5_readAnswer ({ frames := 3, cells := 0, slots := 0, locals := 72 }) (dC, dI) vwCl [.ref h0, .ref h1] [zV5 h0 r0_0 v0_1 v0_2 v0_3, zV9 h1 v1_0 r1_1 r1_2 r1_3 r1_4 v1_5 r1_6 r1_7 r1_8, zV10 r0_0 r2_0 r2_1 v2_2 v2_3 v2_4 v2_5 v2_6 v2_7, zV4 r1_6 v3_0 v3_1 r3_2 r3_3 r3_4 r3_5 r3_6 r3_7 r3_8 r3_9, zVi r3_2 k4 14 f4, zVi r2_1 k5 1200 f5, zVi r2_0 k6 13 f6, zVi r3_5 k7 14 f7] [(k4, .int), (k5, .byte), (k6, .int), (k7, .int)] (fun r _ => r = o.1 ∧ narrow .boolean (.int o.1) = .int o.1) [zV5 h0 r0_0 o.2.1 o.2.2.1 o.2.2.2.1, zV9 h1 v1_0 r1_1 r1_2 r1_3 r1_4 v1_5 r1_6 r1_7 r1_8, zV10 r0_0 r2_0 r2_1 v2_2 o.2.2.2.2.1 o.2.2.2.2.2.1 o.2.2.2.2.2.2.1 o.2.2.2.2.2.2.2.1 o.2.2.2.2.2.2.2.2.1, zV4 r1_6 v3_0 v3_1 r3_2 r3_3 r3_4 r3_5 r3_6 r3_7 r3_8 r3_9, zVi r3_2 k4 14 f4, zVi r2_1 k5 1200 f5, zVi r2_0 k6 13 f6, zVi r3_5 k7 14 o.2.2.2.2.2.2.2.2.2] [(k4, .int), (k5, .byte), (k6, .int), (k7, .int)] sz := by
  refine zgoi (cc := cX5_readAnswer) (maxL := 3) (ret := (some .boolean)) (C0 := RX5) (lv0 := [(0, .ref h0), (1, .ref h1)]) zpl_X5 rfl rfl rfl (Nat.le_of_ble_eq_true rfl) ?_
  intro p e s m below meth c A ls Q hx hb hr hts hown hlocks hml hP hK hD hA hS hl hQ
  unfold fn_X5_readAnswer at hfn
  refine lv_aload_n hx hb dX5_readAnswer_0 rfl (lv_at hl 0 rfl) ?_
  refine lv_aload_n hx hb dX5_readAnswer_1 rfl (lv_at hl 1 rfl) ?_
  refine va_get (D := (dC, dI)) (ci := 9) (v := .ref r1_6) (C := RX9) (T := TX9) (N := 9) hx hb hts zn_X5_readAnswer_X9 hown hK hP 1 rfl rfl 6 (of_decide_eq_true rfl) (hts (.fieldLink RX5 44 "ShortEnough$Task" "numbers" "LShortEnough$Numbers;") zw_X5_readAnswer_466) (fun _ h9 => h9) rfl dX5_readAnswer_2 ?_
  refine lv_aload_n hx hb dX5_readAnswer_5 rfl (lv_at hl 0 rfl) ?_
  refine va_get (D := (dC, dI)) (ci := 5) (v := .ref r0_0) (C := RX5) (T := TX5) (N := 4) hx hb hts zn_X5_readAnswer_X5 hown hK hP 0 rfl rfl 0 (of_decide_eq_true rfl) (hts (.fieldLink RX5 12 "ShortEnough$Parser" "words" "LShortEnough$Words;") zw_X5_readAnswer_468) (fun _ h9 => h9) rfl dX5_readAnswer_6 ?_
  refine va_get (D := (dC, dI)) (ci := 10) (v := .int v2_6) (C := RX10) (T := TX10) (N := 8) hx hb hts zn_X5_readAnswer_X10 hown hK hP 2 rfl rfl 6 (of_decide_eq_true rfl) (hts (.fieldLink RX5 138 "ShortEnough$Words" "value" "I") zw_X5_readAnswer_470) (fun _ h9 => h9) rfl dX5_readAnswer_9 ?_
  obtain ⟨o_1, hqo_1, hfn⟩ := zb_s hfn
  refine zcVi (ci := 4) (rest := [.ref h0]) (pc' := 15) (ws' := [zV5 h0 r0_0 v0_1 v0_2 v0_3, zV9 h1 v1_0 r1_1 r1_2 r1_3 r1_4 v1_5 r1_6 r1_7 r1_8, zV10 r0_0 r2_0 r2_1 v2_2 v2_3 v2_4 v2_5 v2_6 v2_7, zV4 r1_6 v3_0 v3_1 r3_2 r3_3 r3_4 r3_5 r3_6 r3_7 r3_8 r3_9, zVi r3_2 k4 14 f4, zVi r2_1 k5 1200 f5, zVi r2_0 k6 13 f6, zVi r3_5 k7 14 f7]) hP hK hD hS hA ⟨hx, hb, hml, hown, hts⟩ (zf_X4_find l dC dI r1_6 v2_6 v3_0 v3_1 r3_2 r3_3 r3_4 r3_5 r3_6 r3_7 r3_8 r3_9 k4 f4 o_1 hqo_1 s.heap.size) (cwV 1 hts gX5_readAnswer_X4_find rfl rfl rfl zhd_X4_find ⟨Nat.le_of_ble_eq_true rfl, Nat.le_of_ble_eq_true rfl⟩) [3, 4] rfl (of_decide_eq_true rfl) [0] rfl rfl rfl rfl hl.1 rfl (Nat.le_of_ble_eq_true rfl) dX5_readAnswer_12 ⟨Nat.le_of_ble_eq_true rfl, Nat.le_of_ble_eq_true rfl⟩ [none, none, none, some 0, some 1] (of_decide_eq_true rfl) (of_decide_eq_true rfl) rfl rfl rfl (fun H locs hP hD hS => ?_)
  obtain ⟨o_5, hqo_5, hfn⟩ := zb_s hfn
  refine zcVb (ci := 5) (rest := []) (pc' := 18) (ws' := [zV5 h0 r0_0 o_5.2.1 o_5.2.2.1 o_5.2.2.2.1, zV9 h1 v1_0 r1_1 r1_2 r1_3 r1_4 v1_5 r1_6 r1_7 r1_8, zV10 r0_0 r2_0 r2_1 v2_2 o_5.2.2.2.2.1 o_5.2.2.2.2.2.1 o_5.2.2.2.2.2.2.1 o_5.2.2.2.2.2.2.2.1 o_5.2.2.2.2.2.2.2.2, zV4 r1_6 v3_0 v3_1 r3_2 r3_3 r3_4 r3_5 r3_6 r3_7 r3_8 r3_9, zVi r3_2 k4 14 f4, zVi r2_1 k5 1200 f5, zVi r2_0 k6 13 f6, zVi r3_5 k7 14 f7]) hP hK hD hS hA ⟨hx, hb, hml, hown, hts⟩ (zf_X5_readKnown l dC dI h0 o_1 r0_0 v0_1 v0_2 v0_3 r2_0 r2_1 v2_2 v2_3 v2_4 v2_5 v2_6 v2_7 k5 f5 k6 f6 o_5 hqo_5 H.size) (cwV 1 hts gX5_readAnswer_X5_readKnown rfl rfl rfl zhd_X5_readKnown ⟨Nat.le_of_ble_eq_true rfl, Nat.le_of_ble_eq_true rfl⟩) [0, 2, 5, 6] rfl (of_decide_eq_true rfl) [1, 2] rfl rfl rfl rfl hl.1 rfl (Nat.le_of_ble_eq_true rfl) dX5_readAnswer_15 ⟨Nat.le_of_ble_eq_true rfl, Nat.le_of_ble_eq_true rfl⟩ [some 0, none, some 1, none, none, some 2, some 3] (of_decide_eq_true rfl) (of_decide_eq_true rfl) rfl rfl rfl (fun H locs hw_8n hP hD hS => ?_)
  refine lv_if_ne (tgt := 23) hx hb dX5_readAnswer_18 (of_decide_eq_true rfl) (fun c_9 => ?_) (fun c_9 => ?_)
  · have hfn := (if_neg c_9).symm.trans hfn
    refine lv_aload_n hx hb dX5_readAnswer_23 rfl (lv_at hl 0 rfl) ?_
    refine va_get (D := (dC, dI)) (ci := 5) (v := .int o_5.2.1) (C := RX5) (T := TX5) (N := 4) hx hb hts zn_X5_readAnswer_X5 hown hK hP 0 rfl rfl 1 (of_decide_eq_true rfl) (hts (.fieldLink RX5 102 "ShortEnough$Parser" "got" "I") zw_X5_readAnswer_476) (fun _ h9 => h9) rfl dX5_readAnswer_24 ?_
    refine lv_istore_n (lv' := [(2, .int o_5.2.1), (0, .ref h0), (1, .ref h1)]) hx hb dX5_readAnswer_27 rfl hl (of_decide_eq_true rfl) rfl (fun ls hl => ?_)
    refine lv_aload_n hx hb dX5_readAnswer_28 rfl (lv_at hl 1 rfl) ?_
    refine lv_bipush (v := 12) hx hb dX5_readAnswer_29 zcb_12 ?_
    obtain ⟨o_10, hqo_10, hfn⟩ := zb_s hfn
    refine zcVb (ci := 5) (rest := []) (pc' := 34) (ws' := [zV5 h0 r0_0 o_5.2.1 o_10.2.1 o_10.2.2.1, zV9 h1 v1_0 r1_1 r1_2 r1_3 r1_4 v1_5 r1_6 r1_7 r1_8, zV10 r0_0 r2_0 r2_1 v2_2 o_10.2.2.2.1 o_10.2.2.2.2.1 o_10.2.2.2.2.2.1 o_10.2.2.2.2.2.2.1 o_10.2.2.2.2.2.2.2, zV4 r1_6 v3_0 v3_1 r3_2 r3_3 r3_4 r3_5 r3_6 r3_7 r3_8 r3_9, zVi r3_2 k4 14 f4, zVi r2_1 k5 1200 f5, zVi r2_0 k6 13 f6, zVi r3_5 k7 14 f7]) hP hK hD hS hA ⟨hx, hb, hml, hown, hts⟩ (zf_X5_readOwn l dC dI h0 12 r0_0 o_5.2.1 o_5.2.2.1 o_5.2.2.2.1 r2_0 r2_1 v2_2 o_5.2.2.2.2.1 o_5.2.2.2.2.2.1 o_5.2.2.2.2.2.2.1 o_5.2.2.2.2.2.2.2.1 o_5.2.2.2.2.2.2.2.2 k5 f5 k6 f6 o_10 hqo_10 H.size) (cwV 1 hts gX5_readAnswer_X5_readOwn rfl rfl rfl zhd_X5_readOwn ⟨Nat.le_of_ble_eq_true rfl, Nat.le_of_ble_eq_true rfl⟩) [0, 2, 5, 6] rfl (of_decide_eq_true rfl) [1, 2] rfl rfl rfl rfl hl.1 rfl (Nat.le_of_ble_eq_true rfl) dX5_readAnswer_31 ⟨Nat.le_of_ble_eq_true rfl, Nat.le_of_ble_eq_true rfl⟩ [some 0, none, some 1, none, none, some 2, some 3] (of_decide_eq_true rfl) (of_decide_eq_true rfl) rfl rfl rfl (fun H locs hw_13n hP hD hS => ?_)
    refine lv_if_eq (tgt := 48) hx hb dX5_readAnswer_34 (of_decide_eq_true rfl) (fun c_14 => ?_) (fun c_14 => ?_)
    · have hfn := (if_pos c_14).symm.trans hfn
      refine lv_iconst (v := 0) hx hb dX5_readAnswer_48 zci_0 ?_
      have ho := Option.some.inj hfn
      subst ho
      exact zrz hx hb hr rfl hK hP hD hS hQ ⟨rfl, zB0⟩ hlocks dX5_readAnswer_49
    have hfn := (if_neg c_14).symm.trans hfn
    refine lv_aload_n hx hb dX5_readAnswer_37 rfl (lv_at hl 1 rfl) ?_
    refine lv_iconst (v := 0) hx hb dX5_readAnswer_38 zci_0 ?_
    refine lv_iconst (v := 0) hx hb dX5_readAnswer_39 zci_0 ?_
    refine lv_ldc (v := 1000000) hx hb hown (hts (.constant RX5 108 (1000000)) zw_X5_readAnswer_477) dX5_readAnswer_40 ?_
    obtain ⟨o_15, hqo_15, hfn⟩ := zb_s hfn
    refine zcVb (ci := 5) (rest := []) (pc' := 45) (ws' := [zV5 h0 r0_0 o_15.2.1 o_15.2.2.1 o_15.2.2.2.1, zV9 h1 v1_0 r1_1 r1_2 r1_3 r1_4 v1_5 r1_6 r1_7 r1_8, zV10 r0_0 r2_0 r2_1 v2_2 o_15.2.2.2.2.1 o_15.2.2.2.2.2.1 o_15.2.2.2.2.2.2.1 o_15.2.2.2.2.2.2.2.1 o_15.2.2.2.2.2.2.2.2, zV4 r1_6 v3_0 v3_1 r3_2 r3_3 r3_4 r3_5 r3_6 r3_7 r3_8 r3_9, zVi r3_2 k4 14 f4, zVi r2_1 k5 1200 f5, zVi r2_0 k6 13 f6, zVi r3_5 k7 14 f7]) hP hK hD hS hA ⟨hx, hb, hml, hown, hts⟩ (zf_X5_readValue l dC dI h0 0 0 1000000 r0_0 o_5.2.1 o_10.2.1 o_10.2.2.1 r2_0 r2_1 v2_2 o_10.2.2.2.1 o_10.2.2.2.2.1 o_10.2.2.2.2.2.1 o_10.2.2.2.2.2.2.1 o_10.2.2.2.2.2.2.2 k5 f5 k6 f6 o_15 hqo_15 H.size) (cwV 3 hts gX5_readAnswer_X5_readValue rfl rfl rfl zhd_X5_readValue ⟨Nat.le_of_ble_eq_true rfl, Nat.le_of_ble_eq_true rfl⟩) [0, 2, 5, 6] rfl (of_decide_eq_true rfl) [1, 2] rfl rfl rfl rfl hl.1 rfl (Nat.le_of_ble_eq_true rfl) dX5_readAnswer_42 ⟨Nat.le_of_ble_eq_true rfl, Nat.le_of_ble_eq_true rfl⟩ [some 0, none, some 1, none, none, some 2, some 3] (of_decide_eq_true rfl) (of_decide_eq_true rfl) rfl rfl rfl (fun H locs hw_18n hP hD hS => ?_)
    refine lv_if_ne (tgt := 50) hx hb dX5_readAnswer_45 (of_decide_eq_true rfl) (fun c_19 => ?_) (fun c_19 => ?_)
    · have hfn := (if_neg c_19).symm.trans hfn
      refine lv_aload_n hx hb dX5_readAnswer_50 rfl (lv_at hl 2 rfl) ?_
      refine va_get (D := (dC, dI)) (ci := 9) (v := .ref r1_6) (C := RX9) (T := TX9) (N := 9) hx hb hts zn_X5_readAnswer_X9 hown hK hP 1 rfl rfl 6 (of_decide_eq_true rfl) (hts (.fieldLink RX5 44 "ShortEnough$Task" "numbers" "LShortEnough$Numbers;") zw_X5_readAnswer_466) (fun _ h9 => h9) rfl dX5_readAnswer_51 ?_
      refine lv_iload_n hx hb dX5_readAnswer_54 rfl (lv_at hl 0 rfl) ?_
      refine lv_aload_n hx hb dX5_readAnswer_55 rfl (lv_at hl 1 rfl) ?_
      refine va_get (D := (dC, dI)) (ci := 5) (v := .int o_15.2.1) (C := RX5) (T := TX5) (N := 4) hx hb hts zn_X5_readAnswer_X5 hown hK hP 0 rfl rfl 1 (of_decide_eq_true rfl) (hts (.fieldLink RX5 102 "ShortEnough$Parser" "got" "I") zw_X5_readAnswer_476) (fun _ h9 => h9) rfl dX5_readAnswer_56 ?_
      obtain ⟨o_20, hqo_20, hfn⟩ := zb_s hfn
      refine zcVv (ci := 4) (rest := []) (pc' := 62) (ws' := [zV5 h0 r0_0 o_15.2.1 o_15.2.2.1 o_15.2.2.2.1, zV9 h1 v1_0 r1_1 r1_2 r1_3 r1_4 v1_5 r1_6 r1_7 r1_8, zV10 r0_0 r2_0 r2_1 v2_2 o_15.2.2.2.2.1 o_15.2.2.2.2.2.1 o_15.2.2.2.2.2.2.1 o_15.2.2.2.2.2.2.2.1 o_15.2.2.2.2.2.2.2.2, zV4 r1_6 v3_0 v3_1 r3_2 r3_3 r3_4 r3_5 r3_6 r3_7 r3_8 r3_9, zVi r3_2 k4 14 f4, zVi r2_1 k5 1200 f5, zVi r2_0 k6 13 f6, zVi r3_5 k7 14 o_20]) hP hK hD hS hA ⟨hx, hb, hml, hown, hts⟩ (zf_X4_allow l dC dI r1_6 o_5.2.1 o_15.2.1 v3_0 v3_1 r3_2 r3_3 r3_4 r3_5 r3_6 r3_7 r3_8 r3_9 k7 f7 o_20 hqo_20 H.size) (cwV 2 hts gX5_readAnswer_X4_allow rfl rfl rfl zhd_X4_allow ⟨Nat.le_of_ble_eq_true rfl, Nat.le_of_ble_eq_true rfl⟩) [3, 7] rfl (of_decide_eq_true rfl) [3] rfl rfl rfl rfl hl.1 rfl (Nat.le_of_ble_eq_true rfl) dX5_readAnswer_59 ⟨Nat.le_of_ble_eq_true rfl, Nat.le_of_ble_eq_true rfl⟩ [none, none, none, some 0, none, none, none, some 1] (of_decide_eq_true rfl) (of_decide_eq_true rfl) rfl rfl rfl (fun H locs hP hD hS => ?_)
      refine lv_iconst (v := 1) hx hb dX5_readAnswer_62 zci_1 ?_
      have ho := Option.some.inj hfn
      subst ho
      exact zrz hx hb hr rfl hK hP hD hS hQ ⟨rfl, zB1⟩ hlocks dX5_readAnswer_63
    have hfn := (if_pos c_19).symm.trans hfn
    refine lv_iconst (v := 0) hx hb dX5_readAnswer_48 zci_0 ?_
    have ho := Option.some.inj hfn
    subst ho
    exact zrz hx hb hr rfl hK hP hD hS hQ ⟨rfl, zB0⟩ hlocks dX5_readAnswer_49
  have hfn := (if_pos c_9).symm.trans hfn
  refine lv_iconst (v := 0) hx hb dX5_readAnswer_21 zci_0 ?_
  have ho := Option.some.inj hfn
  subst ho
  exact zrz hx hb hr rfl hK hP hD hS hQ ⟨rfl, zB0⟩ hlocks dX5_readAnswer_22
theorem zn_X5_readCast_X5 : ∀ w ∈ wsX50, w ∈ wsX5_readCast := fun _ h => List.mem_cons_of_mem _ (List.mem_append_left _ (List.mem_append_left _ (List.mem_append_right _ h)))
theorem zw_X5_readCast_479 : Cond.fieldLink RX5 102 "ShortEnough$Parser" "got" "I" ∈ wsX5_readCast := List.mem_of_getElem? (i := 1) (by decide +kernel)
theorem zn_X5_readCast_X9 : ∀ w ∈ wsX90, w ∈ wsX5_readCast := fun _ h => List.mem_cons_of_mem _ (List.mem_append_left _ (List.mem_append_right _ h))
theorem zw_X5_readCast_481 : Cond.fieldLink RX5 118 "ShortEnough$Task" "castPrice" "I" ∈ wsX5_readCast := List.mem_of_getElem? (i := 2) (by decide +kernel)
set_option maxHeartbeats 4000000 in
set_option maxRecDepth 100000 in
theorem zf_X5_readCast (l : Launch) (dC : Nat → ClassId) (dI : Nat → Nat → Nat) (h0 : Nat) (h1 : Nat) (r0_0 : Nat) (v0_1 : Int32) (v0_2 : Int32) (v0_3 : Int32) (r1_0 : Nat) (r1_1 : Nat) (v1_2 : Int32) (v1_3 : Int32) (v1_4 : Int32) (v1_5 : Int32) (v1_6 : Int32) (v1_7 : Int32) (k2 : Nat) (f2 : Nat → Int32) (k3 : Nat) (f3 : Nat → Int32) (v4_0 : Int32) (r4_1 : Nat) (r4_2 : Nat) (r4_3 : Nat) (r4_4 : Nat) (v4_5 : Int32) (r4_6 : Nat) (r4_7 : Nat) (r4_8 : Nat) (o : Int32 × Int32 × Int32 × Int32 × Int32 × Int32 × Int32 × Int32 × Int32 × Int32) (hfn : fn_X5_readCast v0_1 v0_2 v0_3 v1_2 v1_3 v1_4 v1_5 v1_6 v1_7 f2 f3 v4_5 = some o) (sz : Nat) : zMi l yX5_readCast wsX5_readCast ({ frames := 3, cells := 0, slots := 0, locals := 72 }) (dC, dI) vwCl [.ref h0, .ref h1] [zV5 h0 r0_0 v0_1 v0_2 v0_3, zV10 r0_0 r1_0 r1_1 v1_2 v1_3 v1_4 v1_5 v1_6 v1_7, zVi r1_1 k2 1200 f2, zVi r1_0 k3 13 f3, zV9 h1 v4_0 r4_1 r4_2 r4_3 r4_4 v4_5 r4_6 r4_7 r4_8] [(k2, .byte), (k3, .int)] (fun r _ => r = o.1 ∧ narrow .boolean (.int o.1) = .int o.1) [zV5 h0 r0_0 o.2.1 o.2.2.1 o.2.2.2.1, zV10 r0_0 r1_0 r1_1 v1_2 o.2.2.2.2.1 o.2.2.2.2.2.1 o.2.2.2.2.2.2.1 o.2.2.2.2.2.2.2.1 o.2.2.2.2.2.2.2.2.1, zVi r1_1 k2 1200 f2, zVi r1_0 k3 13 f3, zV9 h1 v4_0 r4_1 r4_2 r4_3 r4_4 o.2.2.2.2.2.2.2.2.2 r4_6 r4_7 r4_8] [(k2, .byte), (k3, .int)] sz := by
  refine zgoi (cc := cX5_readCast) (maxL := 2) (ret := (some .boolean)) (C0 := RX5) (lv0 := [(0, .ref h0), (1, .ref h1)]) zpl_X5 rfl rfl rfl (Nat.le_of_ble_eq_true rfl) ?_
  intro p e s m below meth c A ls Q hx hb hr hts hown hlocks hml hP hK hD hA hS hl hQ
  unfold fn_X5_readCast at hfn
  refine lv_aload_n hx hb dX5_readCast_0 rfl (lv_at hl 0 rfl) ?_
  refine lv_iconst (v := 0) hx hb dX5_readCast_1 zci_0 ?_
  refine lv_iconst (v := 0) hx hb dX5_readCast_2 zci_0 ?_
  refine lv_sipush (v := 999) hx hb dX5_readCast_3 zcs_999 ?_
  obtain ⟨o_1, hqo_1, hfn⟩ := zb_s hfn
  refine zcVb (ci := 5) (rest := []) (pc' := 9) (ws' := [zV5 h0 r0_0 o_1.2.1 o_1.2.2.1 o_1.2.2.2.1, zV10 r0_0 r1_0 r1_1 v1_2 o_1.2.2.2.2.1 o_1.2.2.2.2.2.1 o_1.2.2.2.2.2.2.1 o_1.2.2.2.2.2.2.2.1 o_1.2.2.2.2.2.2.2.2, zVi r1_1 k2 1200 f2, zVi r1_0 k3 13 f3, zV9 h1 v4_0 r4_1 r4_2 r4_3 r4_4 v4_5 r4_6 r4_7 r4_8]) hP hK hD hS hA ⟨hx, hb, hml, hown, hts⟩ (zf_X5_readValue l dC dI h0 0 0 999 r0_0 v0_1 v0_2 v0_3 r1_0 r1_1 v1_2 v1_3 v1_4 v1_5 v1_6 v1_7 k2 f2 k3 f3 o_1 hqo_1 s.heap.size) (cwV 3 hts gX5_readCast_X5_readValue rfl rfl rfl zhd_X5_readValue ⟨Nat.le_of_ble_eq_true rfl, Nat.le_of_ble_eq_true rfl⟩) [0, 1, 2, 3] rfl (of_decide_eq_true rfl) [0, 1] rfl rfl rfl rfl hl.1 rfl (Nat.le_of_ble_eq_true rfl) dX5_readCast_6 ⟨Nat.le_of_ble_eq_true rfl, Nat.le_of_ble_eq_true rfl⟩ [some 0, some 1, some 2, some 3] (of_decide_eq_true rfl) (of_decide_eq_true rfl) rfl rfl rfl (fun H locs hw_4n hP hD hS => ?_)
  refine lv_if_ne (tgt := 14) hx hb dX5_readCast_9 (of_decide_eq_true rfl) (fun c_5 => ?_) (fun c_5 => ?_)
  · have hfn := (if_neg c_5).symm.trans hfn
    refine lv_aload_n hx hb dX5_readCast_14 rfl (lv_at hl 1 rfl) ?_
    refine lv_aload_n hx hb dX5_readCast_15 rfl (lv_at hl 0 rfl) ?_
    refine va_get (D := (dC, dI)) (ci := 5) (v := .int o_1.2.1) (C := RX5) (T := TX5) (N := 4) hx hb hts zn_X5_readCast_X5 hown hK hP 0 rfl rfl 1 (of_decide_eq_true rfl) (hts (.fieldLink RX5 102 "ShortEnough$Parser" "got" "I") zw_X5_readCast_479) (fun _ h9 => h9) rfl dX5_readCast_16 ?_
    refine va_put (D := (dC, dI)) (ci := 9) (v := .int o_1.2.1) (ty := .int) (C := RX9) (T := TX9) (N := 9) hx hb hts zn_X5_readCast_X9 tyX9 tyX9_ok nmX9 hown hK hP hD hS 4 rfl rfl 5 (of_decide_eq_true rfl) (hts (.fieldLink RX5 118 "ShortEnough$Task" "castPrice" "I") zw_X5_readCast_481) (fun _ h9 => h9) rfl (tyX9_ok 5 (of_decide_eq_true rfl)) rfl rfl (Nat.le_of_ble_eq_true rfl) dX5_readCast_19 (fun H locs hP hD hS => ?_)
    have hP : va_P (dC, dI) vwCl [zV5 h0 r0_0 o_1.2.1 o_1.2.2.1 o_1.2.2.2.1, zV10 r0_0 r1_0 r1_1 v1_2 o_1.2.2.2.2.1 o_1.2.2.2.2.2.1 o_1.2.2.2.2.2.2.1 o_1.2.2.2.2.2.2.2.1 o_1.2.2.2.2.2.2.2.2, zVi r1_1 k2 1200 f2, zVi r1_0 k3 13 f3, zV9 h1 v4_0 r4_1 r4_2 r4_3 r4_4 o_1.2.1 r4_6 r4_7 r4_8] H := hP
    have hD := zDW hD hP rfl
    refine lv_iconst (v := 1) hx hb dX5_readCast_22 zci_1 ?_
    have ho := Option.some.inj hfn
    subst ho
    exact zrz hx hb hr rfl hK hP hD hS hQ ⟨rfl, zB1⟩ hlocks dX5_readCast_23
  have hfn := (if_pos c_5).symm.trans hfn
  refine lv_iconst (v := 0) hx hb dX5_readCast_12 zci_0 ?_
  have ho := Option.some.inj hfn
  subst ho
  exact zrz hx hb hr rfl hK hP hD hS hQ ⟨rfl, zB0⟩ hlocks dX5_readCast_13
theorem zn_X5_readBox_X5 : ∀ w ∈ wsX50, w ∈ wsX5_readBox := fun _ h => List.mem_cons_of_mem _ (List.mem_append_left _ (List.mem_append_left _ (List.mem_append_left _ (List.mem_append_right _ h))))
theorem zw_X5_readBox_483 : Cond.fieldLink RX5 102 "ShortEnough$Parser" "got" "I" ∈ wsX5_readBox := List.mem_of_getElem? (i := 1) (by decide +kernel)
theorem zw_X5_readBox_484 : Cond.constant RX5 121 (-10000000) ∈ wsX5_readBox := List.mem_of_getElem? (i := 2) (by decide +kernel)
theorem zw_X5_readBox_485 : Cond.constant RX5 122 (10000000) ∈ wsX5_readBox := List.mem_of_getElem? (i := 3) (by decide +kernel)
theorem zn_X5_readBox_X9 : ∀ w ∈ wsX90, w ∈ wsX5_readBox := fun _ h => List.mem_cons_of_mem _ (List.mem_append_left _ (List.mem_append_left _ (List.mem_append_right _ h)))
theorem zw_X5_readBox_487 : Cond.fieldLink RX5 44 "ShortEnough$Task" "numbers" "LShortEnough$Numbers;" ∈ wsX5_readBox := List.mem_of_getElem? (i := 4) (by decide +kernel)
set_option maxHeartbeats 4000000 in
set_option maxRecDepth 100000 in
theorem zf_X5_readBox (l : Launch) (dC : Nat → ClassId) (dI : Nat → Nat → Nat) (h0 : Nat) (h1 : Nat) (r0_0 : Nat) (v0_1 : Int32) (v0_2 : Int32) (v0_3 : Int32) (r1_0 : Nat) (r1_1 : Nat) (v1_2 : Int32) (v1_3 : Int32) (v1_4 : Int32) (v1_5 : Int32) (v1_6 : Int32) (v1_7 : Int32) (v2_0 : Int32) (r2_1 : Nat) (r2_2 : Nat) (r2_3 : Nat) (r2_4 : Nat) (v2_5 : Int32) (r2_6 : Nat) (r2_7 : Nat) (r2_8 : Nat) (k3 : Nat) (f3 : Nat → Int32) (v4_0 : Int32) (v4_1 : Int32) (r4_2 : Nat) (r4_3 : Nat) (r4_4 : Nat) (r4_5 : Nat) (r4_6 : Nat) (r4_7 : Nat) (r4_8 : Nat) (r4_9 : Nat) (k5 : Nat) (f5 : Nat → Int32) (k6 : Nat) (f6 : Nat → Int32) (k7 : Nat) (f7 : Nat → Int32) (k8 : Nat) (f8 : Nat → Int32) (k9 : Nat) (f9 : Nat → Int32) (k10 : Nat) (f10 : Nat → Int32) (k11 : Nat) (f11 : Nat → Int32) (k12 : Nat) (f12 : Nat → Int32) (k13 : Nat) (f13 : Nat → Int32) (k14 : Nat) (f14 : Nat → Int32) (o : Int32 × Int32 × Int32 × Int32 × Int32 × Int32 × Int32 × Int32 × Int32 × Int32 × Int32 × (Nat → Int32) × (Nat → Int32) × (Nat → Int32) × (Nat → Int32) × (Nat → Int32) × (Nat → Int32) × (Nat → Int32) × (Nat → Int32)) (hfn : fn_X5_readBox v0_1 v0_2 v0_3 v1_2 v1_3 v1_4 v1_5 v1_6 v1_7 v2_0 f3 v4_0 v4_1 f5 f6 f7 f8 f9 f10 f11 f12 f13 f14 = some o) (sz : Nat) : zMi l yX5_readBox wsX5_readBox ({ frames := 3, cells := 0, slots := 0, locals := 72 }) (dC, dI) vwCl [.ref h0, .ref h1] [zV5 h0 r0_0 v0_1 v0_2 v0_3, zV10 r0_0 r1_0 r1_1 v1_2 v1_3 v1_4 v1_5 v1_6 v1_7, zV9 h1 v2_0 r2_1 r2_2 r2_3 r2_4 v2_5 r2_6 r2_7 r2_8, zVi r2_1 k3 4 f3, zV4 r2_6 v4_0 v4_1 r4_2 r4_3 r4_4 r4_5 r4_6 r4_7 r4_8 r4_9, zVi r4_2 k5 14 f5, zVi r1_1 k6 1200 f6, zVi r1_0 k7 13 f7, zVi r4_8 k8 28 f8, zVi r4_9 k9 28 f9, zVi r4_3 k10 14 f10, zVi r4_4 k11 14 f11, zVi r4_5 k12 14 f12, zVi r4_7 k13 14 f13, zVi r4_6 k14 14 f14] [(k3, .int), (k5, .int), (k6, .byte), (k7, .int), (k8, .int), (k9, .int), (k10, .int), (k11, .int), (k12, .int), (k13, .int), (k14, .int)] (fun r _ => r = o.1 ∧ narrow .boolean (.int o.1) = .int o.1) [zV5 h0 r0_0 o.2.1 o.2.2.1 o.2.2.2.1, zV10 r0_0 r1_0 r1_1 v1_2 o.2.2.2.2.1 o.2.2.2.2.2.1 o.2.2.2.2.2.2.1 o.2.2.2.2.2.2.2.1 o.2.2.2.2.2.2.2.2.1, zV9 h1 v2_0 r2_1 r2_2 r2_3 r2_4 v2_5 r2_6 r2_7 r2_8, zVi r2_1 k3 4 f3, zV4 r2_6 o.2.2.2.2.2.2.2.2.2.1 o.2.2.2.2.2.2.2.2.2.2.1 r4_2 r4_3 r4_4 r4_5 r4_6 r4_7 r4_8 r4_9, zVi r4_2 k5 14 o.2.2.2.2.2.2.2.2.2.2.2.1, zVi r1_1 k6 1200 f6, zVi r1_0 k7 13 f7, zVi r4_8 k8 28 o.2.2.2.2.2.2.2.2.2.2.2.2.1, zVi r4_9 k9 28 o.2.2.2.2.2.2.2.2.2.2.2.2.2.1, zVi r4_3 k10 14 o.2.2.2.2.2.2.2.2.2.2.2.2.2.2.1, zVi r4_4 k11 14 o.2.2.2.2.2.2.2.2.2.2.2.2.2.2.2.1, zVi r4_5 k12 14 o.2.2.2.2.2.2.2.2.2.2.2.2.2.2.2.2.1, zVi r4_7 k13 14 o.2.2.2.2.2.2.2.2.2.2.2.2.2.2.2.2.2.1, zVi r4_6 k14 14 o.2.2.2.2.2.2.2.2.2.2.2.2.2.2.2.2.2.2] [(k3, .int), (k5, .int), (k6, .byte), (k7, .int), (k8, .int), (k9, .int), (k10, .int), (k11, .int), (k12, .int), (k13, .int), (k14, .int)] sz := by
  refine zgoi (cc := cX5_readBox) (maxL := 4) (ret := (some .boolean)) (C0 := RX5) (lv0 := [(0, .ref h0), (1, .ref h1)]) zpl_X5 rfl rfl rfl (Nat.le_of_ble_eq_true rfl) ?_
  intro p e s m below meth c A ls Q hx hb hr hts hown hlocks hml hP hK hD hA hS hl hQ
  unfold fn_X5_readBox at hfn
  refine lv_aload_n hx hb dX5_readBox_0 rfl (lv_at hl 0 rfl) ?_
  refine lv_aload_n hx hb dX5_readBox_1 rfl (lv_at hl 1 rfl) ?_
  obtain ⟨o_1, hqo_1, hfn⟩ := zb_s hfn
  refine zcVb (ci := 5) (rest := []) (pc' := 5) (ws' := [zV5 h0 r0_0 o_1.2.1 o_1.2.2.1 o_1.2.2.2.1, zV10 r0_0 r1_0 r1_1 v1_2 o_1.2.2.2.2.1 o_1.2.2.2.2.2.1 o_1.2.2.2.2.2.2.1 o_1.2.2.2.2.2.2.2.1 o_1.2.2.2.2.2.2.2.2, zV9 h1 v2_0 r2_1 r2_2 r2_3 r2_4 v2_5 r2_6 r2_7 r2_8, zVi r2_1 k3 4 f3, zV4 r2_6 v4_0 v4_1 r4_2 r4_3 r4_4 r4_5 r4_6 r4_7 r4_8 r4_9, zVi r4_2 k5 14 f5, zVi r1_1 k6 1200 f6, zVi r1_0 k7 13 f7, zVi r4_8 k8 28 f8, zVi r4_9 k9 28 f9, zVi r4_3 k10 14 f10, zVi r4_4 k11 14 f11, zVi r4_5 k12 14 f12, zVi r4_7 k13 14 f13, zVi r4_6 k14 14 f14]) hP hK hD hS hA ⟨hx, hb, hml, hown, hts⟩ (zf_X5_readNewName l dC dI h0 h1 r0_0 v0_1 v0_2 v0_3 r1_0 r1_1 v1_2 v1_3 v1_4 v1_5 v1_6 v1_7 v2_0 r2_1 r2_2 r2_3 r2_4 v2_5 r2_6 r2_7 r2_8 k3 f3 v4_0 v4_1 r4_2 r4_3 r4_4 r4_5 r4_6 r4_7 r4_8 r4_9 k5 f5 k6 f6 k7 f7 o_1 hqo_1 s.heap.size) (cwV 1 hts gX5_readBox_X5_readNewName rfl rfl rfl zhd_X5_readNewName ⟨Nat.le_of_ble_eq_true rfl, Nat.le_of_ble_eq_true rfl⟩) [0, 1, 2, 3, 4, 5, 6, 7] rfl (of_decide_eq_true rfl) [0, 1, 2, 3] rfl rfl rfl rfl hl.1 rfl (Nat.le_of_ble_eq_true rfl) dX5_readBox_2 ⟨Nat.le_of_ble_eq_true rfl, Nat.le_of_ble_eq_true rfl⟩ [some 0, some 1, some 2, some 3, some 4, some 5, some 6, some 7] (of_decide_eq_true rfl) (of_decide_eq_true rfl) rfl rfl rfl (fun H locs hw_4n hP hD hS => ?_)
  refine lv_if_ne (tgt := 10) hx hb dX5_readBox_5 (of_decide_eq_true rfl) (fun c_5 => ?_) (fun c_5 => ?_)
  · have hfn := (if_neg c_5).symm.trans hfn
    refine lv_aload_n hx hb dX5_readBox_10 rfl (lv_at hl 0 rfl) ?_
    refine va_get (D := (dC, dI)) (ci := 5) (v := .int o_1.2.1) (C := RX5) (T := TX5) (N := 4) hx hb hts zn_X5_readBox_X5 hown hK hP 0 rfl rfl 1 (of_decide_eq_true rfl) (hts (.fieldLink RX5 102 "ShortEnough$Parser" "got" "I") zw_X5_readBox_483) (fun _ h9 => h9) rfl dX5_readBox_11 ?_
    refine lv_istore_n (lv' := [(2, .int o_1.2.1), (0, .ref h0), (1, .ref h1)]) hx hb dX5_readBox_14 rfl hl (of_decide_eq_true rfl) rfl (fun ls hl => ?_)
    refine lv_aload_n hx hb dX5_readBox_15 rfl (lv_at hl 1 rfl) ?_
    refine lv_iconst (v := 1) hx hb dX5_readBox_16 zci_1 ?_
    refine lv_ldc (v := (-10000000)) hx hb hown (hts (.constant RX5 121 (-10000000)) zw_X5_readBox_484) dX5_readBox_17 ?_
    refine lv_ldc (v := 10000000) hx hb hown (hts (.constant RX5 122 (10000000)) zw_X5_readBox_485) dX5_readBox_19 ?_
    obtain ⟨o_6, hqo_6, hfn⟩ := zb_s hfn
    refine zcVb (ci := 5) (rest := []) (pc' := 24) (ws' := [zV5 h0 r0_0 o_6.2.1 o_6.2.2.1 o_6.2.2.2.1, zV10 r0_0 r1_0 r1_1 v1_2 o_6.2.2.2.2.1 o_6.2.2.2.2.2.1 o_6.2.2.2.2.2.2.1 o_6.2.2.2.2.2.2.2.1 o_6.2.2.2.2.2.2.2.2, zV9 h1 v2_0 r2_1 r2_2 r2_3 r2_4 v2_5 r2_6 r2_7 r2_8, zVi r2_1 k3 4 f3, zV4 r2_6 v4_0 v4_1 r4_2 r4_3 r4_4 r4_5 r4_6 r4_7 r4_8 r4_9, zVi r4_2 k5 14 f5, zVi r1_1 k6 1200 f6, zVi r1_0 k7 13 f7, zVi r4_8 k8 28 f8, zVi r4_9 k9 28 f9, zVi r4_3 k10 14 f10, zVi r4_4 k11 14 f11, zVi r4_5 k12 14 f12, zVi r4_7 k13 14 f13, zVi r4_6 k14 14 f14]) hP hK hD hS hA ⟨hx, hb, hml, hown, hts⟩ (zf_X5_readValue l dC dI h0 1 (-10000000) 10000000 r0_0 o_1.2.1 o_1.2.2.1 o_1.2.2.2.1 r1_0 r1_1 v1_2 o_1.2.2.2.2.1 o_1.2.2.2.2.2.1 o_1.2.2.2.2.2.2.1 o_1.2.2.2.2.2.2.2.1 o_1.2.2.2.2.2.2.2.2 k6 f6 k7 f7 o_6 hqo_6 H.size) (cwV 3 hts gX5_readBox_X5_readValue rfl rfl rfl zhd_X5_readValue ⟨Nat.le_of_ble_eq_true rfl, Nat.le_of_ble_eq_true rfl⟩) [0, 1, 6, 7] rfl (of_decide_eq_true rfl) [2, 3] rfl rfl rfl rfl hl.1 rfl (Nat.le_of_ble_eq_true rfl) dX5_readBox_21 ⟨Nat.le_of_ble_eq_true rfl, Nat.le_of_ble_eq_true rfl⟩ [some 0, some 1, none, none, none, none, some 2, some 3] (of_decide_eq_true rfl) (of_decide_eq_true rfl) rfl rfl rfl (fun H locs hw_9n hP hD hS => ?_)
    refine lv_if_ne (tgt := 29) hx hb dX5_readBox_24 (of_decide_eq_true rfl) (fun c_10 => ?_) (fun c_10 => ?_)
    · have hfn := (if_neg c_10).symm.trans hfn
      refine lv_aload_n hx hb dX5_readBox_29 rfl (lv_at hl 1 rfl) ?_
      refine va_get (D := (dC, dI)) (ci := 5) (v := .int o_6.2.1) (C := RX5) (T := TX5) (N := 4) hx hb hts zn_X5_readBox_X5 hown hK hP 0 rfl rfl 1 (of_decide_eq_true rfl) (hts (.fieldLink RX5 102 "ShortEnough$Parser" "got" "I") zw_X5_readBox_483) (fun _ h9 => h9) rfl dX5_readBox_30 ?_
      refine lv_istore_n (lv' := [(3, .int o_6.2.1), (2, .int o_1.2.1), (0, .ref h0), (1, .ref h1)]) hx hb dX5_readBox_33 rfl hl (of_decide_eq_true rfl) rfl (fun ls hl => ?_)
      refine lv_aload_n hx hb dX5_readBox_34 rfl (lv_at hl 2 rfl) ?_
      refine lv_iconst (v := 1) hx hb dX5_readBox_35 zci_1 ?_
      refine lv_iload_n hx hb dX5_readBox_36 rfl (lv_at hl 0 rfl) ?_
      refine lv_ldc (v := 10000000) hx hb hown (hts (.constant RX5 122 (10000000)) zw_X5_readBox_485) dX5_readBox_37 ?_
      obtain ⟨o_11, hqo_11, hfn⟩ := zb_s hfn
      refine zcVb (ci := 5) (rest := []) (pc' := 42) (ws' := [zV5 h0 r0_0 o_11.2.1 o_11.2.2.1 o_11.2.2.2.1, zV10 r0_0 r1_0 r1_1 v1_2 o_11.2.2.2.2.1 o_11.2.2.2.2.2.1 o_11.2.2.2.2.2.2.1 o_11.2.2.2.2.2.2.2.1 o_11.2.2.2.2.2.2.2.2, zV9 h1 v2_0 r2_1 r2_2 r2_3 r2_4 v2_5 r2_6 r2_7 r2_8, zVi r2_1 k3 4 f3, zV4 r2_6 v4_0 v4_1 r4_2 r4_3 r4_4 r4_5 r4_6 r4_7 r4_8 r4_9, zVi r4_2 k5 14 f5, zVi r1_1 k6 1200 f6, zVi r1_0 k7 13 f7, zVi r4_8 k8 28 f8, zVi r4_9 k9 28 f9, zVi r4_3 k10 14 f10, zVi r4_4 k11 14 f11, zVi r4_5 k12 14 f12, zVi r4_7 k13 14 f13, zVi r4_6 k14 14 f14]) hP hK hD hS hA ⟨hx, hb, hml, hown, hts⟩ (zf_X5_readValue l dC dI h0 1 o_6.2.1 10000000 r0_0 o_6.2.1 o_6.2.2.1 o_6.2.2.2.1 r1_0 r1_1 v1_2 o_6.2.2.2.2.1 o_6.2.2.2.2.2.1 o_6.2.2.2.2.2.2.1 o_6.2.2.2.2.2.2.2.1 o_6.2.2.2.2.2.2.2.2 k6 f6 k7 f7 o_11 hqo_11 H.size) (cwV 3 hts gX5_readBox_X5_readValue rfl rfl rfl zhd_X5_readValue ⟨Nat.le_of_ble_eq_true rfl, Nat.le_of_ble_eq_true rfl⟩) [0, 1, 6, 7] rfl (of_decide_eq_true rfl) [2, 3] rfl rfl rfl rfl hl.1 rfl (Nat.le_of_ble_eq_true rfl) dX5_readBox_39 ⟨Nat.le_of_ble_eq_true rfl, Nat.le_of_ble_eq_true rfl⟩ [some 0, some 1, none, none, none, none, some 2, some 3] (of_decide_eq_true rfl) (of_decide_eq_true rfl) rfl rfl rfl (fun H locs hw_14n hP hD hS => ?_)
      refine lv_if_ne (tgt := 47) hx hb dX5_readBox_42 (of_decide_eq_true rfl) (fun c_15 => ?_) (fun c_15 => ?_)
      · have hfn := (if_neg c_15).symm.trans hfn
        refine lv_aload_n hx hb dX5_readBox_47 rfl (lv_at hl 3 rfl) ?_
        refine va_get (D := (dC, dI)) (ci := 9) (v := .ref r2_6) (C := RX9) (T := TX9) (N := 9) hx hb hts zn_X5_readBox_X9 hown hK hP 2 rfl rfl 6 (of_decide_eq_true rfl) (hts (.fieldLink RX5 44 "ShortEnough$Task" "numbers" "LShortEnough$Numbers;") zw_X5_readBox_487) (fun _ h9 => h9) rfl dX5_readBox_48 ?_
        refine lv_iconst (v := 0) hx hb dX5_readBox_51 zci_0 ?_
        refine lv_iconst (v := (-1)) hx hb dX5_readBox_52 zci_m1 ?_
        refine lv_iload_n hx hb dX5_readBox_53 rfl (lv_at hl 0 rfl) ?_
        obtain ⟨o_16, hqo_16, hfn⟩ := zb_s hfn
        refine zcVv (ci := 4) (rest := []) (pc' := 57) (ws' := [zV5 h0 r0_0 o_11.2.1 o_11.2.2.1 o_11.2.2.2.1, zV10 r0_0 r1_0 r1_1 v1_2 o_11.2.2.2.2.1 o_11.2.2.2.2.2.1 o_11.2.2.2.2.2.2.1 o_11.2.2.2.2.2.2.2.1 o_11.2.2.2.2.2.2.2.2, zV9 h1 v2_0 r2_1 r2_2 r2_3 r2_4 v2_5 r2_6 r2_7 r2_8, zVi r2_1 k3 4 f3, zV4 r2_6 v4_0 v4_1 r4_2 r4_3 r4_4 r4_5 r4_6 r4_7 r4_8 r4_9, zVi r4_2 k5 14 f5, zVi r1_1 k6 1200 f6, zVi r1_0 k7 13 f7, zVi r4_8 k8 28 o_16.1, zVi r4_9 k9 28 o_16.2, zVi r4_3 k10 14 f10, zVi r4_4 k11 14 f11, zVi r4_5 k12 14 f12, zVi r4_7 k13 14 f13, zVi r4_6 k14 14 f14]) hP hK hD hS hA ⟨hx, hb, hml, hown, hts⟩ (zf_X4_prepare l dC dI r2_6 0 (-1) o_6.2.1 v4_0 v4_1 r4_2 r4_3 r4_4 r4_5 r4_6 r4_7 r4_8 r4_9 k8 f8 k9 f9 o_16 hqo_16 H.size) (cwV 3 hts gX5_readBox_X4_prepare rfl rfl rfl zhd_X4_prepare ⟨Nat.le_of_ble_eq_true rfl, Nat.le_of_ble_eq_true rfl⟩) [4, 8, 9] rfl (of_decide_eq_true rfl) [4, 5] rfl rfl rfl rfl hl.1 rfl (Nat.le_of_ble_eq_true rfl) dX5_readBox_54 ⟨Nat.le_of_ble_eq_true rfl, Nat.le_of_ble_eq_true rfl⟩ [none, none, none, none, some 0, none, none, none, some 1, some 2] (of_decide_eq_true rfl) (of_decide_eq_true rfl) rfl rfl rfl (fun H locs hP hD hS => ?_)
        refine lv_aload_n hx hb dX5_readBox_57 rfl (lv_at hl 3 rfl) ?_
        refine va_get (D := (dC, dI)) (ci := 9) (v := .ref r2_6) (C := RX9) (T := TX9) (N := 9) hx hb hts zn_X5_readBox_X9 hown hK hP 2 rfl rfl 6 (of_decide_eq_true rfl) (hts (.fieldLink RX5 44 "ShortEnough$Task" "numbers" "LShortEnough$Numbers;") zw_X5_readBox_487) (fun _ h9 => h9) rfl dX5_readBox_58 ?_
        refine lv_iconst (v := 1) hx hb dX5_readBox_61 zci_1 ?_
        refine lv_iconst (v := (-1)) hx hb dX5_readBox_62 zci_m1 ?_
        refine lv_aload_n hx hb dX5_readBox_63 rfl (lv_at hl 2 rfl) ?_
        refine va_get (D := (dC, dI)) (ci := 5) (v := .int o_11.2.1) (C := RX5) (T := TX5) (N := 4) hx hb hts zn_X5_readBox_X5 hown hK hP 0 rfl rfl 1 (of_decide_eq_true rfl) (hts (.fieldLink RX5 102 "ShortEnough$Parser" "got" "I") zw_X5_readBox_483) (fun _ h9 => h9) rfl dX5_readBox_64 ?_
        obtain ⟨o_20, hqo_20, hfn⟩ := zb_s hfn
        refine zcVv (ci := 4) (rest := []) (pc' := 70) (ws' := [zV5 h0 r0_0 o_11.2.1 o_11.2.2.1 o_11.2.2.2.1, zV10 r0_0 r1_0 r1_1 v1_2 o_11.2.2.2.2.1 o_11.2.2.2.2.2.1 o_11.2.2.2.2.2.2.1 o_11.2.2.2.2.2.2.2.1 o_11.2.2.2.2.2.2.2.2, zV9 h1 v2_0 r2_1 r2_2 r2_3 r2_4 v2_5 r2_6 r2_7 r2_8, zVi r2_1 k3 4 f3, zV4 r2_6 v4_0 v4_1 r4_2 r4_3 r4_4 r4_5 r4_6 r4_7 r4_8 r4_9, zVi r4_2 k5 14 f5, zVi r1_1 k6 1200 f6, zVi r1_0 k7 13 f7, zVi r4_8 k8 28 o_20.1, zVi r4_9 k9 28 o_20.2, zVi r4_3 k10 14 f10, zVi r4_4 k11 14 f11, zVi r4_5 k12 14 f12, zVi r4_7 k13 14 f13, zVi r4_6 k14 14 f14]) hP hK hD hS hA ⟨hx, hb, hml, hown, hts⟩ (zf_X4_prepare l dC dI r2_6 1 (-1) o_11.2.1 v4_0 v4_1 r4_2 r4_3 r4_4 r4_5 r4_6 r4_7 r4_8 r4_9 k8 o_16.1 k9 o_16.2 o_20 hqo_20 H.size) (cwV 3 hts gX5_readBox_X4_prepare rfl rfl rfl zhd_X4_prepare ⟨Nat.le_of_ble_eq_true rfl, Nat.le_of_ble_eq_true rfl⟩) [4, 8, 9] rfl (of_decide_eq_true rfl) [4, 5] rfl rfl rfl rfl hl.1 rfl (Nat.le_of_ble_eq_true rfl) dX5_readBox_67 ⟨Nat.le_of_ble_eq_true rfl, Nat.le_of_ble_eq_true rfl⟩ [none, none, none, none, some 0, none, none, none, some 1, some 2] (of_decide_eq_true rfl) (of_decide_eq_true rfl) rfl rfl rfl (fun H locs hP hD hS => ?_)
        refine lv_aload_n hx hb dX5_readBox_70 rfl (lv_at hl 3 rfl) ?_
        refine va_get (D := (dC, dI)) (ci := 9) (v := .ref r2_6) (C := RX9) (T := TX9) (N := 9) hx hb hts zn_X5_readBox_X9 hown hK hP 2 rfl rfl 6 (of_decide_eq_true rfl) (hts (.fieldLink RX5 44 "ShortEnough$Task" "numbers" "LShortEnough$Numbers;") zw_X5_readBox_487) (fun _ h9 => h9) rfl dX5_readBox_71 ?_
        refine lv_iload_n hx hb dX5_readBox_74 rfl (lv_at hl 1 rfl) ?_
        refine lv_iconst (v := 0) hx hb dX5_readBox_75 zci_0 ?_
        obtain ⟨o_24, hqo_24, hfn⟩ := zb_s hfn
        refine zcVv (ci := 4) (rest := []) (pc' := 79) (ws' := [zV5 h0 r0_0 o_11.2.1 o_11.2.2.1 o_11.2.2.2.1, zV10 r0_0 r1_0 r1_1 v1_2 o_11.2.2.2.2.1 o_11.2.2.2.2.2.1 o_11.2.2.2.2.2.2.1 o_11.2.2.2.2.2.2.2.1 o_11.2.2.2.2.2.2.2.2, zV9 h1 v2_0 r2_1 r2_2 r2_3 r2_4 v2_5 r2_6 r2_7 r2_8, zVi r2_1 k3 4 f3, zV4 r2_6 o_24.1 o_24.2.1 r4_2 r4_3 r4_4 r4_5 r4_6 r4_7 r4_8 r4_9, zVi r4_2 k5 14 o_24.2.2.1, zVi r1_1 k6 1200 f6, zVi r1_0 k7 13 f7, zVi r4_8 k8 28 o_20.1, zVi r4_9 k9 28 o_20.2, zVi r4_3 k10 14 o_24.2.2.2.1, zVi r4_4 k11 14 o_24.2.2.2.2.1, zVi r4_5 k12 14 o_24.2.2.2.2.2.1, zVi r4_7 k13 14 o_24.2.2.2.2.2.2.1, zVi r4_6 k14 14 o_24.2.2.2.2.2.2.2]) hP hK hD hS hA ⟨hx, hb, hml, hown, hts⟩ (zf_X4_add l dC dI r2_6 o_1.2.1 0 v4_0 v4_1 r4_2 r4_3 r4_4 r4_5 r4_6 r4_7 r4_8 r4_9 k5 f5 k10 f10 k11 f11 k12 f12 k13 f13 k8 o_20.1 k14 f14 o_24 hqo_24 H.size) (cwV 2 hts gX5_readBox_X4_add rfl rfl rfl zhd_X4_add ⟨Nat.le_of_ble_eq_true rfl, Nat.le_of_ble_eq_true rfl⟩) [4, 5, 10, 11, 12, 13, 8, 14] rfl (of_decide_eq_true rfl) [1, 6, 7, 8, 9, 4, 10] rfl rfl rfl rfl hl.1 rfl (Nat.le_of_ble_eq_true rfl) dX5_readBox_76 ⟨Nat.le_of_ble_eq_true rfl, Nat.le_of_ble_eq_true rfl⟩ [none, none, none, none, some 0, some 1, none, none, some 6, none, some 2, some 3, some 4, some 5, some 7] (of_decide_eq_true rfl) (of_decide_eq_true rfl) rfl rfl rfl (fun H locs hP hD hS => ?_)
        refine lv_iconst (v := 1) hx hb dX5_readBox_79 zci_1 ?_
        have ho := Option.some.inj hfn
        subst ho
        exact zrz hx hb hr rfl hK hP hD hS hQ ⟨rfl, zB1⟩ hlocks dX5_readBox_80
      have hfn := (if_pos c_15).symm.trans hfn
      refine lv_iconst (v := 0) hx hb dX5_readBox_45 zci_0 ?_
      have ho := Option.some.inj hfn
      subst ho
      exact zrz hx hb hr rfl hK hP hD hS hQ ⟨rfl, zB0⟩ hlocks dX5_readBox_46
    have hfn := (if_pos c_10).symm.trans hfn
    refine lv_iconst (v := 0) hx hb dX5_readBox_27 zci_0 ?_
    have ho := Option.some.inj hfn
    subst ho
    exact zrz hx hb hr rfl hK hP hD hS hQ ⟨rfl, zB0⟩ hlocks dX5_readBox_28
  have hfn := (if_pos c_5).symm.trans hfn
  refine lv_iconst (v := 0) hx hb dX5_readBox_8 zci_0 ?_
  have ho := Option.some.inj hfn
  subst ho
  exact zrz hx hb hr rfl hK hP hD hS hQ ⟨rfl, zB0⟩ hlocks dX5_readBox_9
theorem zn_X5_readSign_X5 : ∀ w ∈ wsX50, w ∈ wsX5_readSign := fun _ h => List.mem_cons_of_mem _ (List.mem_append_left _ (List.mem_append_right _ h))
theorem zw_X5_readSign_491 : Cond.fieldLink RX5 12 "ShortEnough$Parser" "words" "LShortEnough$Words;" ∈ wsX5_readSign := List.mem_of_getElem? (i := 1) (by decide +kernel)
theorem zn_X5_readSign_X10 : ∀ w ∈ wsX100, w ∈ wsX5_readSign := fun _ h => List.mem_cons_of_mem _ (List.mem_append_right _ h)
theorem zw_X5_readSign_493 : Cond.fieldLink RX5 64 "ShortEnough$Words" "start" "I" ∈ wsX5_readSign := List.mem_of_getElem? (i := 2) (by decide +kernel)
set_option maxHeartbeats 4000000 in
set_option maxRecDepth 100000 in
theorem zf_X5_readSign (l : Launch) (dC : Nat → ClassId) (dI : Nat → Nat → Nat) (h0 : Nat) (p1 : Int32) (r0_0 : Nat) (v0_1 : Int32) (v0_2 : Int32) (v0_3 : Int32) (r1_0 : Nat) (r1_1 : Nat) (v1_2 : Int32) (v1_3 : Int32) (v1_4 : Int32) (v1_5 : Int32) (v1_6 : Int32) (v1_7 : Int32) (k2 : Nat) (f2 : Nat → Int32) (k3 : Nat) (f3 : Nat → Int32) (o : Int32 × Int32 × Int32 × Int32 × Int32 × Int32 × Int32 × Int32) (hfn : fn_X5_readSign p1 v0_2 v0_3 v1_2 v1_3 v1_4 v1_5 v1_6 v1_7 f2 f3 = some o) (sz : Nat) : zMi l yX5_readSign wsX5_readSign ({ frames := 2, cells := 0, slots := 0, locals := 46 }) (dC, dI) vwCl [.ref h0, .int p1] [zV5 h0 r0_0 v0_1 v0_2 v0_3, zV10 r0_0 r1_0 r1_1 v1_2 v1_3 v1_4 v1_5 v1_6 v1_7, zVi r1_1 k2 1200 f2, zVi r1_0 k3 13 f3] [(k2, .byte), (k3, .int)] (fun r _ => r = o.1 ∧ narrow .boolean (.int o.1) = .int o.1) [zV5 h0 r0_0 v0_1 o.2.1 o.2.2.1, zV10 r0_0 r1_0 r1_1 v1_2 o.2.2.2.1 o.2.2.2.2.1 o.2.2.2.2.2.1 o.2.2.2.2.2.2.1 o.2.2.2.2.2.2.2, zVi r1_1 k2 1200 f2, zVi r1_0 k3 13 f3] [(k2, .byte), (k3, .int)] sz := by
  refine zgoi (cc := cX5_readSign) (maxL := 2) (ret := (some .boolean)) (C0 := RX5) (lv0 := [(0, .ref h0), (1, .int p1)]) zpl_X5 rfl rfl rfl (Nat.le_of_ble_eq_true rfl) ?_
  intro p e s m below meth c A ls Q hx hb hr hts hown hlocks hml hP hK hD hA hS hl hQ
  unfold fn_X5_readSign at hfn
  refine lv_aload_n hx hb dX5_readSign_0 rfl (lv_at hl 0 rfl) ?_
  refine va_get (D := (dC, dI)) (ci := 5) (v := .ref r0_0) (C := RX5) (T := TX5) (N := 4) hx hb hts zn_X5_readSign_X5 hown hK hP 0 rfl rfl 0 (of_decide_eq_true rfl) (hts (.fieldLink RX5 12 "ShortEnough$Parser" "words" "LShortEnough$Words;") zw_X5_readSign_491) (fun _ h9 => h9) rfl dX5_readSign_1 ?_
  refine lv_iload_n hx hb dX5_readSign_4 rfl (lv_at hl 1 rfl) ?_
  obtain ⟨o_1, hqo_1, hfn⟩ := zb_s hfn
  refine zcVb (ci := 10) (rest := []) (pc' := 8) (ws' := [zV5 h0 r0_0 v0_1 v0_2 v0_3, zV10 r0_0 r1_0 r1_1 v1_2 v1_3 v1_4 v1_5 v1_6 v1_7, zVi r1_1 k2 1200 f2, zVi r1_0 k3 13 f3]) hP hK hD hS hA ⟨hx, hb, hml, hown, hts⟩ (zf_X10_isSign l dC dI r0_0 p1 r1_0 r1_1 v1_2 v1_3 v1_4 v1_5 v1_6 v1_7 o_1 hqo_1 s.heap.size) (cwV 1 hts gX5_readSign_X10_isSign rfl rfl rfl zhd_X10_isSign ⟨Nat.le_of_ble_eq_true rfl, Nat.le_of_ble_eq_true rfl⟩) [1] rfl (of_decide_eq_true rfl) [] rfl rfl rfl rfl hl.1 rfl (Nat.le_of_ble_eq_true rfl) dX5_readSign_5 ⟨Nat.le_of_ble_eq_true rfl, Nat.le_of_ble_eq_true rfl⟩ [none, some 0] (of_decide_eq_true rfl) (of_decide_eq_true rfl) rfl rfl rfl (fun H locs hw_4n hP hD hS => ?_)
  refine lv_if_ne (tgt := 24) hx hb dX5_readSign_8 (of_decide_eq_true rfl) (fun c_5 => ?_) (fun c_5 => ?_)
  · have hfn := (if_neg c_5).symm.trans hfn
    refine lv_aload_n hx hb dX5_readSign_24 rfl (lv_at hl 0 rfl) ?_
    refine va_get (D := (dC, dI)) (ci := 5) (v := .ref r0_0) (C := RX5) (T := TX5) (N := 4) hx hb hts zn_X5_readSign_X5 hown hK hP 0 rfl rfl 0 (of_decide_eq_true rfl) (hts (.fieldLink RX5 12 "ShortEnough$Parser" "words" "LShortEnough$Words;") zw_X5_readSign_491) (fun _ h9 => h9) rfl dX5_readSign_25 ?_
    obtain ⟨o_6, hqo_6, hfn⟩ := zb_s hfn
    refine zcVv (ci := 10) (rest := []) (pc' := 31) (ws' := [zV5 h0 r0_0 v0_1 v0_2 v0_3, zV10 r0_0 r1_0 r1_1 v1_2 o_6.1 o_6.2.1 o_6.2.2.1 o_6.2.2.2.1 o_6.2.2.2.2, zVi r1_1 k2 1200 f2, zVi r1_0 k3 13 f3]) hP hK hD hS hA ⟨hx, hb, hml, hown, hts⟩ (zf_X10_advance l dC dI r0_0 r1_0 r1_1 v1_2 v1_3 v1_4 v1_5 v1_6 v1_7 k2 f2 k3 f3 o_6 hqo_6 H.size) (cwV 0 hts gX5_readSign_X10_advance rfl rfl rfl zhd_X10_advance ⟨Nat.le_of_ble_eq_true rfl, Nat.le_of_ble_eq_true rfl⟩) [1, 2, 3] rfl (of_decide_eq_true rfl) [0, 1] rfl rfl rfl rfl hl.1 rfl (Nat.le_of_ble_eq_true rfl) dX5_readSign_28 ⟨Nat.le_of_ble_eq_true rfl, Nat.le_of_ble_eq_true rfl⟩ [none, some 0, some 1, some 2] (of_decide_eq_true rfl) (of_decide_eq_true rfl) rfl rfl rfl (fun H locs hP hD hS => ?_)
    refine lv_iconst (v := 1) hx hb dX5_readSign_31 zci_1 ?_
    have ho := Option.some.inj hfn
    subst ho
    exact zrz hx hb hr rfl hK hP hD hS hQ ⟨rfl, zB1⟩ hlocks dX5_readSign_32
  have hfn := (if_pos c_5).symm.trans hfn
  refine lv_aload_n hx hb dX5_readSign_11 rfl (lv_at hl 0 rfl) ?_
  refine lv_iconst (v := 1) hx hb dX5_readSign_12 zci_1 ?_
  refine lv_aload_n hx hb dX5_readSign_13 rfl (lv_at hl 0 rfl) ?_
  refine va_get (D := (dC, dI)) (ci := 5) (v := .ref r0_0) (C := RX5) (T := TX5) (N := 4) hx hb hts zn_X5_readSign_X5 hown hK hP 0 rfl rfl 0 (of_decide_eq_true rfl) (hts (.fieldLink RX5 12 "ShortEnough$Parser" "words" "LShortEnough$Words;") zw_X5_readSign_491) (fun _ h9 => h9) rfl dX5_readSign_14 ?_
  refine va_get (D := (dC, dI)) (ci := 10) (v := .int v1_5) (C := RX10) (T := TX10) (N := 8) hx hb hts zn_X5_readSign_X10 hown hK hP 1 rfl rfl 5 (of_decide_eq_true rfl) (hts (.fieldLink RX5 64 "ShortEnough$Words" "start" "I") zw_X5_readSign_493) (fun _ h9 => h9) rfl dX5_readSign_17 ?_
  obtain ⟨o_10, hqo_10, hfn⟩ := zb_s hfn
  refine zcVb (ci := 5) (rest := []) (pc' := 23) (ws' := [zV5 h0 r0_0 v0_1 o_10.2.1 o_10.2.2, zV10 r0_0 r1_0 r1_1 v1_2 v1_3 v1_4 v1_5 v1_6 v1_7, zVi r1_1 k2 1200 f2, zVi r1_0 k3 13 f3]) hP hK hD hS hA ⟨hx, hb, hml, hown, hts⟩ (zf_X5_stopAt l dC dI h0 1 v1_5 r0_0 v0_1 v0_2 v0_3 o_10 hqo_10 H.size) (cwV 2 hts gX5_readSign_X5_stopAt rfl rfl rfl zhd_X5_stopAt ⟨Nat.le_of_ble_eq_true rfl, Nat.le_of_ble_eq_true rfl⟩) [0] rfl (of_decide_eq_true rfl) [] rfl rfl rfl rfl hl.1 rfl (Nat.le_of_ble_eq_true rfl) dX5_readSign_20 ⟨Nat.le_of_ble_eq_true rfl, Nat.le_of_ble_eq_true rfl⟩ [some 0] (of_decide_eq_true rfl) (of_decide_eq_true rfl) rfl rfl rfl (fun H locs hw_13n hP hD hS => ?_)
  have ho := Option.some.inj hfn
  subst ho
  exact zrz hx hb hr hw_13n hK hP hD hS hQ ⟨rfl, hw_13n⟩ hlocks dX5_readSign_23
theorem zn_X5_readWhat_X5 : ∀ w ∈ wsX50, w ∈ wsX5_readWhat := fun _ h => List.mem_cons_of_mem _ (List.mem_append_left _ (List.mem_append_left _ (List.mem_append_left _ (List.mem_append_right _ h))))
theorem zw_X5_readWhat_495 : Cond.fieldLink RX5 12 "ShortEnough$Parser" "words" "LShortEnough$Words;" ∈ wsX5_readWhat := List.mem_of_getElem? (i := 1) (by decide +kernel)
theorem zn_X5_readWhat_X10 : ∀ w ∈ wsX100, w ∈ wsX5_readWhat := fun _ h => List.mem_cons_of_mem _ (List.mem_append_left _ (List.mem_append_left _ (List.mem_append_right _ h)))
theorem zw_X5_readWhat_497 : Cond.fieldLink RX5 34 "ShortEnough$Words" "kind" "I" ∈ wsX5_readWhat := List.mem_of_getElem? (i := 2) (by decide +kernel)
theorem zw_X5_readWhat_498 : Cond.constant RX5 148 (-1000000) ∈ wsX5_readWhat := List.mem_of_getElem? (i := 6) (by decide +kernel)
theorem zw_X5_readWhat_499 : Cond.constant RX5 108 (1000000) ∈ wsX5_readWhat := List.mem_of_getElem? (i := 7) (by decide +kernel)
theorem zn_X5_readWhat_X9 : ∀ w ∈ wsX90, w ∈ wsX5_readWhat := fun _ h => List.mem_cons_of_mem _ (List.mem_append_left _ (List.mem_append_right _ h))
theorem zw_X5_readWhat_501 : Cond.fieldLink RX5 44 "ShortEnough$Task" "numbers" "LShortEnough$Numbers;" ∈ wsX5_readWhat := List.mem_of_getElem? (i := 3) (by decide +kernel)
theorem zw_X5_readWhat_502 : Cond.fieldLink RX5 102 "ShortEnough$Parser" "got" "I" ∈ wsX5_readWhat := List.mem_of_getElem? (i := 5) (by decide +kernel)
theorem zw_X5_readWhat_503 : Cond.fieldLink RX5 138 "ShortEnough$Words" "value" "I" ∈ wsX5_readWhat := List.mem_of_getElem? (i := 4) (by decide +kernel)
set_option maxHeartbeats 4000000 in
set_option maxRecDepth 100000 in
theorem zf_X5_readWhat (l : Launch) (dC : Nat → ClassId) (dI : Nat → Nat → Nat) (h0 : Nat) (h1 : Nat) (p2 : Int32) (r0_0 : Nat) (v0_1 : Int32) (v0_2 : Int32) (v0_3 : Int32) (r1_0 : Nat) (r1_1 : Nat) (v1_2 : Int32) (v1_3 : Int32) (v1_4 : Int32) (v1_5 : Int32) (v1_6 : Int32) (v1_7 : Int32) (k2 : Nat) (f2 : Nat → Int32) (k3 : Nat) (f3 : Nat → Int32) (v4_0 : Int32) (r4_1 : Nat) (r4_2 : Nat) (r4_3 : Nat) (r4_4 : Nat) (v4_5 : Int32) (r4_6 : Nat) (r4_7 : Nat) (r4_8 : Nat) (v5_0 : Int32) (v5_1 : Int32) (r5_2 : Nat) (r5_3 : Nat) (r5_4 : Nat) (r5_5 : Nat) (r5_6 : Nat) (r5_7 : Nat) (r5_8 : Nat) (r5_9 : Nat) (k6 : Nat) (f6 : Nat → Int32) (k7 : Nat) (f7 : Nat → Int32) (k8 : Nat) (f8 : Nat → Int32) (o : Int32 × Int32 × Int32 × Int32 × Int32 × Int32 × Int32 × Int32 × Int32 × (Nat → Int32) × (Nat → Int32)) (hfn : fn_X5_readWhat p2 v0_1 v0_2 v0_3 v1_2 v1_3 v1_4 v1_5 v1_6 v1_7 f2 f3 v5_0 f6 f7 f8 = some o) (sz : Nat) : zMi l yX5_readWhat wsX5_readWhat ({ frames := 3, cells := 0, slots := 0, locals := 72 }) (dC, dI) vwCl [.ref h0, .ref h1, .int p2] [zV5 h0 r0_0 v0_1 v0_2 v0_3, zV10 r0_0 r1_0 r1_1 v1_2 v1_3 v1_4 v1_5 v1_6 v1_7, zVi r1_1 k2 1200 f2, zVi r1_0 k3 13 f3, zV9 h1 v4_0 r4_1 r4_2 r4_3 r4_4 v4_5 r4_6 r4_7 r4_8, zV4 r4_6 v5_0 v5_1 r5_2 r5_3 r5_4 r5_5 r5_6 r5_7 r5_8 r5_9, zVi r5_8 k6 28 f6, zVi r5_9 k7 28 f7, zVi r5_2 k8 14 f8] [(k2, .byte), (k3, .int), (k6, .int), (k7, .int), (k8, .int)] (fun r _ => r = o.1 ∧ narrow .boolean (.int o.1) = .int o.1) [zV5 h0 r0_0 o.2.1 o.2.2.1 o.2.2.2.1, zV10 r0_0 r1_0 r1_1 v1_2 o.2.2.2.2.1 o.2.2.2.2.2.1 o.2.2.2.2.2.2.1 o.2.2.2.2.2.2.2.1 o.2.2.2.2.2.2.2.2.1, zVi r1_1 k2 1200 f2, zVi r1_0 k3 13 f3, zV9 h1 v4_0 r4_1 r4_2 r4_3 r4_4 v4_5 r4_6 r4_7 r4_8, zV4 r4_6 v5_0 v5_1 r5_2 r5_3 r5_4 r5_5 r5_6 r5_7 r5_8 r5_9, zVi r5_8 k6 28 o.2.2.2.2.2.2.2.2.2.1, zVi r5_9 k7 28 o.2.2.2.2.2.2.2.2.2.2, zVi r5_2 k8 14 f8] [(k2, .byte), (k3, .int), (k6, .int), (k7, .int), (k8, .int)] sz := by
  refine zgoi (cc := cX5_readWhat) (maxL := 4) (ret := (some .boolean)) (C0 := RX5) (lv0 := [(0, .ref h0), (1, .ref h1), (2, .int p2)]) zpl_X5 rfl rfl rfl (Nat.le_of_ble_eq_true rfl) ?_
  intro p e s m below meth c A ls Q hx hb hr hts hown hlocks hml hP hK hD hA hS hl hQ
  unfold fn_X5_readWhat at hfn
  refine lv_aload_n hx hb dX5_readWhat_0 rfl (lv_at hl 0 rfl) ?_
  refine va_get (D := (dC, dI)) (ci := 5) (v := .ref r0_0) (C := RX5) (T := TX5) (N := 4) hx hb hts zn_X5_readWhat_X5 hown hK hP 0 rfl rfl 0 (of_decide_eq_true rfl) (hts (.fieldLink RX5 12 "ShortEnough$Parser" "words" "LShortEnough$Words;") zw_X5_readWhat_495) (fun _ h9 => h9) rfl dX5_readWhat_1 ?_
  refine va_get (D := (dC, dI)) (ci := 10) (v := .int v1_4) (C := RX10) (T := TX10) (N := 8) hx hb hts zn_X5_readWhat_X10 hown hK hP 1 rfl rfl 4 (of_decide_eq_true rfl) (hts (.fieldLink RX5 34 "ShortEnough$Words" "kind" "I") zw_X5_readWhat_497) (fun _ h9 => h9) rfl dX5_readWhat_4 ?_
  refine lv_iconst (v := 1) hx hb dX5_readWhat_7 zci_1 ?_
  refine lv_icmp_ne (tgt := 53) hx hb dX5_readWhat_8 (of_decide_eq_true rfl) (fun c_1 => ?_) (fun c_1 => ?_)
  · have hfn := (if_neg c_1).symm.trans hfn
    refine lv_aload_n hx hb dX5_readWhat_53 rfl (lv_at hl 0 rfl) ?_
    refine lv_iconst (v := 1) hx hb dX5_readWhat_54 zci_1 ?_
    refine lv_ldc (v := (-1000000)) hx hb hown (hts (.constant RX5 148 (-1000000)) zw_X5_readWhat_498) dX5_readWhat_55 ?_
    refine lv_ldc (v := 1000000) hx hb hown (hts (.constant RX5 108 (1000000)) zw_X5_readWhat_499) dX5_readWhat_57 ?_
    obtain ⟨o_2, hqo_2, hfn⟩ := zb_s hfn
    refine zcVb (ci := 5) (rest := []) (pc' := 62) (ws' := [zV5 h0 r0_0 o_2.2.1 o_2.2.2.1 o_2.2.2.2.1, zV10 r0_0 r1_0 r1_1 v1_2 o_2.2.2.2.2.1 o_2.2.2.2.2.2.1 o_2.2.2.2.2.2.2.1 o_2.2.2.2.2.2.2.2.1 o_2.2.2.2.2.2.2.2.2, zVi r1_1 k2 1200 f2, zVi r1_0 k3 13 f3, zV9 h1 v4_0 r4_1 r4_2 r4_3 r4_4 v4_5 r4_6 r4_7 r4_8, zV4 r4_6 v5_0 v5_1 r5_2 r5_3 r5_4 r5_5 r5_6 r5_7 r5_8 r5_9, zVi r5_8 k6 28 f6, zVi r5_9 k7 28 f7, zVi r5_2 k8 14 f8]) hP hK hD hS hA ⟨hx, hb, hml, hown, hts⟩ (zf_X5_readValue l dC dI h0 1 (-1000000) 1000000 r0_0 v0_1 v0_2 v0_3 r1_0 r1_1 v1_2 v1_3 v1_4 v1_5 v1_6 v1_7 k2 f2 k3 f3 o_2 hqo_2 s.heap.size) (cwV 3 hts gX5_readWhat_X5_readValue rfl rfl rfl zhd_X5_readValue ⟨Nat.le_of_ble_eq_true rfl, Nat.le_of_ble_eq_true rfl⟩) [0, 1, 2, 3] rfl (of_decide_eq_true rfl) [0, 1] rfl rfl rfl rfl hl.1 rfl (Nat.le_of_ble_eq_true rfl) dX5_readWhat_59 ⟨Nat.le_of_ble_eq_true rfl, Nat.le_of_ble_eq_true rfl⟩ [some 0, some 1, some 2, some 3] (of_decide_eq_true rfl) (of_decide_eq_true rfl) rfl rfl rfl (fun H locs hw_5n hP hD hS => ?_)
    refine lv_istore_n (lv' := [(3, .int o_2.1), (0, .ref h0), (1, .ref h1), (2, .int p2)]) hx hb dX5_readWhat_62 rfl hl (of_decide_eq_true rfl) rfl (fun ls hl => ?_)
    refine lv_aload_n hx hb dX5_readWhat_63 rfl (lv_at hl 2 rfl) ?_
    refine va_get (D := (dC, dI)) (ci := 9) (v := .ref r4_6) (C := RX9) (T := TX9) (N := 9) hx hb hts zn_X5_readWhat_X9 hown hK hP 4 rfl rfl 6 (of_decide_eq_true rfl) (hts (.fieldLink RX5 44 "ShortEnough$Task" "numbers" "LShortEnough$Numbers;") zw_X5_readWhat_501) (fun _ h9 => h9) rfl dX5_readWhat_64 ?_
    refine lv_iload_n hx hb dX5_readWhat_67 rfl (lv_at hl 3 rfl) ?_
    refine lv_iconst (v := (-1)) hx hb dX5_readWhat_68 zci_m1 ?_
    refine lv_iload_n hx hb dX5_readWhat_69 rfl (lv_at hl 0 rfl) ?_
    refine lv_if_eq (tgt := 80) hx hb dX5_readWhat_70 (of_decide_eq_true rfl) (fun c_6 => ?_) (fun c_6 => ?_)
    · have hfn := (if_pos c_6).symm.trans hfn
      refine lv_iconst (v := 0) hx hb dX5_readWhat_80 zci_0 ?_
      obtain ⟨o_7, hqo_7, hfn⟩ := zb_s hfn
      refine zcVv (ci := 4) (rest := []) (pc' := 84) (ws' := [zV5 h0 r0_0 o_2.2.1 o_2.2.2.1 o_2.2.2.2.1, zV10 r0_0 r1_0 r1_1 v1_2 o_2.2.2.2.2.1 o_2.2.2.2.2.2.1 o_2.2.2.2.2.2.2.1 o_2.2.2.2.2.2.2.2.1 o_2.2.2.2.2.2.2.2.2, zVi r1_1 k2 1200 f2, zVi r1_0 k3 13 f3, zV9 h1 v4_0 r4_1 r4_2 r4_3 r4_4 v4_5 r4_6 r4_7 r4_8, zV4 r4_6 v5_0 v5_1 r5_2 r5_3 r5_4 r5_5 r5_6 r5_7 r5_8 r5_9, zVi r5_8 k6 28 o_7.1, zVi r5_9 k7 28 o_7.2, zVi r5_2 k8 14 f8]) hP hK hD hS hA ⟨hx, hb, hml, hown, hts⟩ (zf_X4_prepare l dC dI r4_6 p2 (-1) 0 v5_0 v5_1 r5_2 r5_3 r5_4 r5_5 r5_6 r5_7 r5_8 r5_9 k6 f6 k7 f7 o_7 hqo_7 H.size) (cwV 3 hts gX5_readWhat_X4_prepare rfl rfl rfl zhd_X4_prepare ⟨Nat.le_of_ble_eq_true rfl, Nat.le_of_ble_eq_true rfl⟩) [5, 6, 7] rfl (of_decide_eq_true rfl) [2, 3] rfl rfl rfl rfl hl.1 rfl (Nat.le_of_ble_eq_true rfl) dX5_readWhat_81 ⟨Nat.le_of_ble_eq_true rfl, Nat.le_of_ble_eq_true rfl⟩ [none, none, none, none, none, some 0, some 1, some 2] (of_decide_eq_true rfl) (of_decide_eq_true rfl) rfl rfl rfl (fun H locs hP hD hS => ?_)
      refine lv_iload_n hx hb dX5_readWhat_84 rfl (lv_at hl 0 rfl) ?_
      have ho := Option.some.inj hfn
      subst ho
      exact zrz hx hb hr hw_5n hK hP hD hS hQ ⟨rfl, hw_5n⟩ hlocks dX5_readWhat_85
    have hfn := (if_neg c_6).symm.trans hfn
    refine lv_aload_n hx hb dX5_readWhat_73 rfl (lv_at hl 1 rfl) ?_
    refine va_get (D := (dC, dI)) (ci := 5) (v := .int o_2.2.1) (C := RX5) (T := TX5) (N := 4) hx hb hts zn_X5_readWhat_X5 hown hK hP 0 rfl rfl 1 (of_decide_eq_true rfl) (hts (.fieldLink RX5 102 "ShortEnough$Parser" "got" "I") zw_X5_readWhat_502) (fun _ h9 => h9) rfl dX5_readWhat_74 ?_
    refine lv_goto (tgt := 81) hx hb dX5_readWhat_77 (of_decide_eq_true rfl) ?_
    obtain ⟨o_11, hqo_11, hfn⟩ := zb_s hfn
    refine zcVv (ci := 4) (rest := []) (pc' := 84) (ws' := [zV5 h0 r0_0 o_2.2.1 o_2.2.2.1 o_2.2.2.2.1, zV10 r0_0 r1_0 r1_1 v1_2 o_2.2.2.2.2.1 o_2.2.2.2.2.2.1 o_2.2.2.2.2.2.2.1 o_2.2.2.2.2.2.2.2.1 o_2.2.2.2.2.2.2.2.2, zVi r1_1 k2 1200 f2, zVi r1_0 k3 13 f3, zV9 h1 v4_0 r4_1 r4_2 r4_3 r4_4 v4_5 r4_6 r4_7 r4_8, zV4 r4_6 v5_0 v5_1 r5_2 r5_3 r5_4 r5_5 r5_6 r5_7 r5_8 r5_9, zVi r5_8 k6 28 o_11.1, zVi r5_9 k7 28 o_11.2, zVi r5_2 k8 14 f8]) hP hK hD hS hA ⟨hx, hb, hml, hown, hts⟩ (zf_X4_prepare l dC dI r4_6 p2 (-1) o_2.2.1 v5_0 v5_1 r5_2 r5_3 r5_4 r5_5 r5_6 r5_7 r5_8 r5_9 k6 f6 k7 f7 o_11 hqo_11 H.size) (cwV 3 hts gX5_readWhat_X4_prepare rfl rfl rfl zhd_X4_prepare ⟨Nat.le_of_ble_eq_true rfl, Nat.le_of_ble_eq_true rfl⟩) [5, 6, 7] rfl (of_decide_eq_true rfl) [2, 3] rfl rfl rfl rfl hl.1 rfl (Nat.le_of_ble_eq_true rfl) dX5_readWhat_81 ⟨Nat.le_of_ble_eq_true rfl, Nat.le_of_ble_eq_true rfl⟩ [none, none, none, none, none, some 0, some 1, some 2] (of_decide_eq_true rfl) (of_decide_eq_true rfl) rfl rfl rfl (fun H locs hP hD hS => ?_)
    refine lv_iload_n hx hb dX5_readWhat_84 rfl (lv_at hl 0 rfl) ?_
    have ho := Option.some.inj hfn
    subst ho
    exact zrz hx hb hr hw_5n hK hP hD hS hQ ⟨rfl, hw_5n⟩ hlocks dX5_readWhat_85
  have hfn := (if_pos c_1).symm.trans hfn
  refine lv_aload_n hx hb dX5_readWhat_11 rfl (lv_at hl 0 rfl) ?_
  refine lv_aload_n hx hb dX5_readWhat_12 rfl (lv_at hl 1 rfl) ?_
  refine va_get (D := (dC, dI)) (ci := 9) (v := .ref r4_6) (C := RX9) (T := TX9) (N := 9) hx hb hts zn_X5_readWhat_X9 hown hK hP 4 rfl rfl 6 (of_decide_eq_true rfl) (hts (.fieldLink RX5 44 "ShortEnough$Task" "numbers" "LShortEnough$Numbers;") zw_X5_readWhat_501) (fun _ h9 => h9) rfl dX5_readWhat_13 ?_
  refine lv_aload_n hx hb dX5_readWhat_16 rfl (lv_at hl 0 rfl) ?_
  refine va_get (D := (dC, dI)) (ci := 5) (v := .ref r0_0) (C := RX5) (T := TX5) (N := 4) hx hb hts zn_X5_readWhat_X5 hown hK hP 0 rfl rfl 0 (of_decide_eq_true rfl) (hts (.fieldLink RX5 12 "ShortEnough$Parser" "words" "LShortEnough$Words;") zw_X5_readWhat_495) (fun _ h9 => h9) rfl dX5_readWhat_17 ?_
  refine va_get (D := (dC, dI)) (ci := 10) (v := .int v1_6) (C := RX10) (T := TX10) (N := 8) hx hb hts zn_X5_readWhat_X10 hown hK hP 1 rfl rfl 6 (of_decide_eq_true rfl) (hts (.fieldLink RX5 138 "ShortEnough$Words" "value" "I") zw_X5_readWhat_503) (fun _ h9 => h9) rfl dX5_readWhat_20 ?_
  obtain ⟨o_15, hqo_15, hfn⟩ := zb_s hfn
  refine zcVi (ci := 4) (rest := [.ref h0]) (pc' := 26) (ws' := [zV5 h0 r0_0 v0_1 v0_2 v0_3, zV10 r0_0 r1_0 r1_1 v1_2 v1_3 v1_4 v1_5 v1_6 v1_7, zVi r1_1 k2 1200 f2, zVi r1_0 k3 13 f3, zV9 h1 v4_0 r4_1 r4_2 r4_3 r4_4 v4_5 r4_6 r4_7 r4_8, zV4 r4_6 v5_0 v5_1 r5_2 r5_3 r5_4 r5_5 r5_6 r5_7 r5_8 r5_9, zVi r5_8 k6 28 f6, zVi r5_9 k7 28 f7, zVi r5_2 k8 14 f8]) hP hK hD hS hA ⟨hx, hb, hml, hown, hts⟩ (zf_X4_find l dC dI r4_6 v1_6 v5_0 v5_1 r5_2 r5_3 r5_4 r5_5 r5_6 r5_7 r5_8 r5_9 k8 f8 o_15 hqo_15 s.heap.size) (cwV 1 hts gX5_readWhat_X4_find rfl rfl rfl zhd_X4_find ⟨Nat.le_of_ble_eq_true rfl, Nat.le_of_ble_eq_true rfl⟩) [5, 8] rfl (of_decide_eq_true rfl) [4] rfl rfl rfl rfl hl.1 rfl (Nat.le_of_ble_eq_true rfl) dX5_readWhat_23 ⟨Nat.le_of_ble_eq_true rfl, Nat.le_of_ble_eq_true rfl⟩ [none, none, none, none, none, some 0, none, none, some 1] (of_decide_eq_true rfl) (of_decide_eq_true rfl) rfl rfl rfl (fun H locs hP hD hS => ?_)
  obtain ⟨o_19, hqo_19, hfn⟩ := zb_s hfn
  refine zcVb (ci := 5) (rest := []) (pc' := 29) (ws' := [zV5 h0 r0_0 o_19.2.1 o_19.2.2.1 o_19.2.2.2.1, zV10 r0_0 r1_0 r1_1 v1_2 o_19.2.2.2.2.1 o_19.2.2.2.2.2.1 o_19.2.2.2.2.2.2.1 o_19.2.2.2.2.2.2.2.1 o_19.2.2.2.2.2.2.2.2, zVi r1_1 k2 1200 f2, zVi r1_0 k3 13 f3, zV9 h1 v4_0 r4_1 r4_2 r4_3 r4_4 v4_5 r4_6 r4_7 r4_8, zV4 r4_6 v5_0 v5_1 r5_2 r5_3 r5_4 r5_5 r5_6 r5_7 r5_8 r5_9, zVi r5_8 k6 28 f6, zVi r5_9 k7 28 f7, zVi r5_2 k8 14 f8]) hP hK hD hS hA ⟨hx, hb, hml, hown, hts⟩ (zf_X5_readKnown l dC dI h0 o_15 r0_0 v0_1 v0_2 v0_3 r1_0 r1_1 v1_2 v1_3 v1_4 v1_5 v1_6 v1_7 k2 f2 k3 f3 o_19 hqo_19 H.size) (cwV 1 hts gX5_readWhat_X5_readKnown rfl rfl rfl zhd_X5_readKnown ⟨Nat.le_of_ble_eq_true rfl, Nat.le_of_ble_eq_true rfl⟩) [0, 1, 2, 3] rfl (of_decide_eq_true rfl) [0, 1] rfl rfl rfl rfl hl.1 rfl (Nat.le_of_ble_eq_true rfl) dX5_readWhat_26 ⟨Nat.le_of_ble_eq_true rfl, Nat.le_of_ble_eq_true rfl⟩ [some 0, some 1, some 2, some 3] (of_decide_eq_true rfl) (of_decide_eq_true rfl) rfl rfl rfl (fun H locs hw_22n hP hD hS => ?_)
  refine lv_istore_n (lv' := [(3, .int o_19.1), (0, .ref h0), (1, .ref h1), (2, .int p2)]) hx hb dX5_readWhat_29 rfl hl (of_decide_eq_true rfl) rfl (fun ls hl => ?_)
  refine lv_aload_n hx hb dX5_readWhat_30 rfl (lv_at hl 2 rfl) ?_
  refine va_get (D := (dC, dI)) (ci := 9) (v := .ref r4_6) (C := RX9) (T := TX9) (N := 9) hx hb hts zn_X5_readWhat_X9 hown hK hP 4 rfl rfl 6 (of_decide_eq_true rfl) (hts (.fieldLink RX5 44 "ShortEnough$Task" "numbers" "LShortEnough$Numbers;") zw_X5_readWhat_501) (fun _ h9 => h9) rfl dX5_readWhat_31 ?_
  refine lv_iload_n hx hb dX5_readWhat_34 rfl (lv_at hl 3 rfl) ?_
  refine lv_iload_n hx hb dX5_readWhat_35 rfl (lv_at hl 0 rfl) ?_
  refine lv_if_eq (tgt := 46) hx hb dX5_readWhat_36 (of_decide_eq_true rfl) (fun c_23 => ?_) (fun c_23 => ?_)
  · have hfn := (if_pos c_23).symm.trans hfn
    refine lv_iconst (v := (-1)) hx hb dX5_readWhat_46 zci_m1 ?_
    refine lv_iconst (v := 0) hx hb dX5_readWhat_47 zci_0 ?_
    obtain ⟨o_24, hqo_24, hfn⟩ := zb_s hfn
    refine zcVv (ci := 4) (rest := []) (pc' := 51) (ws' := [zV5 h0 r0_0 o_19.2.1 o_19.2.2.1 o_19.2.2.2.1, zV10 r0_0 r1_0 r1_1 v1_2 o_19.2.2.2.2.1 o_19.2.2.2.2.2.1 o_19.2.2.2.2.2.2.1 o_19.2.2.2.2.2.2.2.1 o_19.2.2.2.2.2.2.2.2, zVi r1_1 k2 1200 f2, zVi r1_0 k3 13 f3, zV9 h1 v4_0 r4_1 r4_2 r4_3 r4_4 v4_5 r4_6 r4_7 r4_8, zV4 r4_6 v5_0 v5_1 r5_2 r5_3 r5_4 r5_5 r5_6 r5_7 r5_8 r5_9, zVi r5_8 k6 28 o_24.1, zVi r5_9 k7 28 o_24.2, zVi r5_2 k8 14 f8]) hP hK hD hS hA ⟨hx, hb, hml, hown, hts⟩ (zf_X4_prepare l dC dI r4_6 p2 (-1) 0 v5_0 v5_1 r5_2 r5_3 r5_4 r5_5 r5_6 r5_7 r5_8 r5_9 k6 f6 k7 f7 o_24 hqo_24 H.size) (cwV 3 hts gX5_readWhat_X4_prepare rfl rfl rfl zhd_X4_prepare ⟨Nat.le_of_ble_eq_true rfl, Nat.le_of_ble_eq_true rfl⟩) [5, 6, 7] rfl (of_decide_eq_true rfl) [2, 3] rfl rfl rfl rfl hl.1 rfl (Nat.le_of_ble_eq_true rfl) dX5_readWhat_48 ⟨Nat.le_of_ble_eq_true rfl, Nat.le_of_ble_eq_true rfl⟩ [none, none, none, none, none, some 0, some 1, some 2] (of_decide_eq_true rfl) (of_decide_eq_true rfl) rfl rfl rfl (fun H locs hP hD hS => ?_)
    refine lv_iload_n hx hb dX5_readWhat_51 rfl (lv_at hl 0 rfl) ?_
    have ho := Option.some.inj hfn
    subst ho
    exact zrz hx hb hr hw_22n hK hP hD hS hQ ⟨rfl, hw_22n⟩ hlocks dX5_readWhat_52
  have hfn := (if_neg c_23).symm.trans hfn
  refine lv_aload_n hx hb dX5_readWhat_39 rfl (lv_at hl 1 rfl) ?_
  refine va_get (D := (dC, dI)) (ci := 5) (v := .int o_19.2.1) (C := RX5) (T := TX5) (N := 4) hx hb hts zn_X5_readWhat_X5 hown hK hP 0 rfl rfl 1 (of_decide_eq_true rfl) (hts (.fieldLink RX5 102 "ShortEnough$Parser" "got" "I") zw_X5_readWhat_502) (fun _ h9 => h9) rfl dX5_readWhat_40 ?_
  refine lv_goto (tgt := 47) hx hb dX5_readWhat_43 (of_decide_eq_true rfl) ?_
  refine lv_iconst (v := 0) hx hb dX5_readWhat_47 zci_0 ?_
  obtain ⟨o_28, hqo_28, hfn⟩ := zb_s hfn
  refine zcVv (ci := 4) (rest := []) (pc' := 51) (ws' := [zV5 h0 r0_0 o_19.2.1 o_19.2.2.1 o_19.2.2.2.1, zV10 r0_0 r1_0 r1_1 v1_2 o_19.2.2.2.2.1 o_19.2.2.2.2.2.1 o_19.2.2.2.2.2.2.1 o_19.2.2.2.2.2.2.2.1 o_19.2.2.2.2.2.2.2.2, zVi r1_1 k2 1200 f2, zVi r1_0 k3 13 f3, zV9 h1 v4_0 r4_1 r4_2 r4_3 r4_4 v4_5 r4_6 r4_7 r4_8, zV4 r4_6 v5_0 v5_1 r5_2 r5_3 r5_4 r5_5 r5_6 r5_7 r5_8 r5_9, zVi r5_8 k6 28 o_28.1, zVi r5_9 k7 28 o_28.2, zVi r5_2 k8 14 f8]) hP hK hD hS hA ⟨hx, hb, hml, hown, hts⟩ (zf_X4_prepare l dC dI r4_6 p2 o_19.2.1 0 v5_0 v5_1 r5_2 r5_3 r5_4 r5_5 r5_6 r5_7 r5_8 r5_9 k6 f6 k7 f7 o_28 hqo_28 H.size) (cwV 3 hts gX5_readWhat_X4_prepare rfl rfl rfl zhd_X4_prepare ⟨Nat.le_of_ble_eq_true rfl, Nat.le_of_ble_eq_true rfl⟩) [5, 6, 7] rfl (of_decide_eq_true rfl) [2, 3] rfl rfl rfl rfl hl.1 rfl (Nat.le_of_ble_eq_true rfl) dX5_readWhat_48 ⟨Nat.le_of_ble_eq_true rfl, Nat.le_of_ble_eq_true rfl⟩ [none, none, none, none, none, some 0, some 1, some 2] (of_decide_eq_true rfl) (of_decide_eq_true rfl) rfl rfl rfl (fun H locs hP hD hS => ?_)
  refine lv_iload_n hx hb dX5_readWhat_51 rfl (lv_at hl 0 rfl) ?_
  have ho := Option.some.inj hfn
  subst ho
  exact zrz hx hb hr hw_22n hK hP hD hS hQ ⟨rfl, hw_22n⟩ hlocks dX5_readWhat_52
theorem zn_X5_readOp_X5 : ∀ w ∈ wsX50, w ∈ wsX5_readOp := fun _ h => List.mem_cons_of_mem _ (List.mem_append_left _ (List.mem_append_right _ h))
theorem zw_X5_readOp_505 : Cond.fieldLink RX5 12 "ShortEnough$Parser" "words" "LShortEnough$Words;" ∈ wsX5_readOp := List.mem_of_getElem? (i := 1) (by decide +kernel)
theorem zn_X5_readOp_X10 : ∀ w ∈ wsX100, w ∈ wsX5_readOp := fun _ h => List.mem_cons_of_mem _ (List.mem_append_right _ h)
theorem zw_X5_readOp_507 : Cond.fieldLink RX5 64 "ShortEnough$Words" "start" "I" ∈ wsX5_readOp := List.mem_of_getElem? (i := 3) (by decide +kernel)
theorem zw_X5_readOp_508 : Cond.fieldLink RX5 102 "ShortEnough$Parser" "got" "I" ∈ wsX5_readOp := List.mem_of_getElem? (i := 2) (by decide +kernel)
set_option maxHeartbeats 4000000 in
set_option maxRecDepth 100000 in
theorem zf_X5_readOp (l : Launch) (dC : Nat → ClassId) (dI : Nat → Nat → Nat) (h0 : Nat) (r0_0 : Nat) (v0_1 : Int32) (v0_2 : Int32) (v0_3 : Int32) (r1_0 : Nat) (r1_1 : Nat) (v1_2 : Int32) (v1_3 : Int32) (v1_4 : Int32) (v1_5 : Int32) (v1_6 : Int32) (v1_7 : Int32) (k2 : Nat) (f2 : Nat → Int32) (k3 : Nat) (f3 : Nat → Int32) (o : Int32 × Int32 × Int32 × Int32 × Int32 × Int32 × Int32 × Int32 × Int32) (hfn : fn_X5_readOp v0_1 v0_2 v0_3 v1_2 v1_3 v1_4 v1_5 v1_6 v1_7 f2 f3 = some o) (sz : Nat) : zMi l yX5_readOp wsX5_readOp ({ frames := 2, cells := 0, slots := 0, locals := 46 }) (dC, dI) vwCl [.ref h0] [zV5 h0 r0_0 v0_1 v0_2 v0_3, zV10 r0_0 r1_0 r1_1 v1_2 v1_3 v1_4 v1_5 v1_6 v1_7, zVi r1_1 k2 1200 f2, zVi r1_0 k3 13 f3] [(k2, .byte), (k3, .int)] (fun r _ => r = o.1 ∧ narrow .boolean (.int o.1) = .int o.1) [zV5 h0 r0_0 o.2.1 o.2.2.1 o.2.2.2.1, zV10 r0_0 r1_0 r1_1 v1_2 o.2.2.2.2.1 o.2.2.2.2.2.1 o.2.2.2.2.2.2.1 o.2.2.2.2.2.2.2.1 o.2.2.2.2.2.2.2.2, zVi r1_1 k2 1200 f2, zVi r1_0 k3 13 f3] [(k2, .byte), (k3, .int)] sz := by
  refine zgoi (cc := cX5_readOp) (maxL := 1) (ret := (some .boolean)) (C0 := RX5) (lv0 := [(0, .ref h0)]) zpl_X5 rfl rfl rfl (Nat.le_of_ble_eq_true rfl) ?_
  intro p e s m below meth c A ls Q hx hb hr hts hown hlocks hml hP hK hD hA hS hl hQ
  unfold fn_X5_readOp at hfn
  refine lv_aload_n hx hb dX5_readOp_0 rfl (lv_at hl 0 rfl) ?_
  refine va_get (D := (dC, dI)) (ci := 5) (v := .ref r0_0) (C := RX5) (T := TX5) (N := 4) hx hb hts zn_X5_readOp_X5 hown hK hP 0 rfl rfl 0 (of_decide_eq_true rfl) (hts (.fieldLink RX5 12 "ShortEnough$Parser" "words" "LShortEnough$Words;") zw_X5_readOp_505) (fun _ h9 => h9) rfl dX5_readOp_1 ?_
  refine lv_bipush (v := 43) hx hb dX5_readOp_4 zcb_43 ?_
  obtain ⟨o_1, hqo_1, hfn⟩ := zb_s hfn
  refine zcVb (ci := 10) (rest := []) (pc' := 9) (ws' := [zV5 h0 r0_0 v0_1 v0_2 v0_3, zV10 r0_0 r1_0 r1_1 v1_2 v1_3 v1_4 v1_5 v1_6 v1_7, zVi r1_1 k2 1200 f2, zVi r1_0 k3 13 f3]) hP hK hD hS hA ⟨hx, hb, hml, hown, hts⟩ (zf_X10_isSign l dC dI r0_0 43 r1_0 r1_1 v1_2 v1_3 v1_4 v1_5 v1_6 v1_7 o_1 hqo_1 s.heap.size) (cwV 1 hts gX5_readOp_X10_isSign rfl rfl rfl zhd_X10_isSign ⟨Nat.le_of_ble_eq_true rfl, Nat.le_of_ble_eq_true rfl⟩) [1] rfl (of_decide_eq_true rfl) [] rfl rfl rfl rfl hl.1 rfl (Nat.le_of_ble_eq_true rfl) dX5_readOp_6 ⟨Nat.le_of_ble_eq_true rfl, Nat.le_of_ble_eq_true rfl⟩ [none, some 0] (of_decide_eq_true rfl) (of_decide_eq_true rfl) rfl rfl rfl (fun H locs hw_4n hP hD hS => ?_)
  refine lv_if_eq (tgt := 20) hx hb dX5_readOp_9 (of_decide_eq_true rfl) (fun c_5 => ?_) (fun c_5 => ?_)
  · have hfn := (if_pos c_5).symm.trans hfn
    refine lv_aload_n hx hb dX5_readOp_20 rfl (lv_at hl 0 rfl) ?_
    refine va_get (D := (dC, dI)) (ci := 5) (v := .ref r0_0) (C := RX5) (T := TX5) (N := 4) hx hb hts zn_X5_readOp_X5 hown hK hP 0 rfl rfl 0 (of_decide_eq_true rfl) (hts (.fieldLink RX5 12 "ShortEnough$Parser" "words" "LShortEnough$Words;") zw_X5_readOp_505) (fun _ h9 => h9) rfl dX5_readOp_21 ?_
    refine lv_bipush (v := 45) hx hb dX5_readOp_24 zcb_45 ?_
    obtain ⟨o_6, hqo_6, hfn⟩ := zb_s hfn
    refine zcVb (ci := 10) (rest := []) (pc' := 29) (ws' := [zV5 h0 r0_0 v0_1 v0_2 v0_3, zV10 r0_0 r1_0 r1_1 v1_2 v1_3 v1_4 v1_5 v1_6 v1_7, zVi r1_1 k2 1200 f2, zVi r1_0 k3 13 f3]) hP hK hD hS hA ⟨hx, hb, hml, hown, hts⟩ (zf_X10_isSign l dC dI r0_0 45 r1_0 r1_1 v1_2 v1_3 v1_4 v1_5 v1_6 v1_7 o_6 hqo_6 H.size) (cwV 1 hts gX5_readOp_X10_isSign rfl rfl rfl zhd_X10_isSign ⟨Nat.le_of_ble_eq_true rfl, Nat.le_of_ble_eq_true rfl⟩) [1] rfl (of_decide_eq_true rfl) [] rfl rfl rfl rfl hl.1 rfl (Nat.le_of_ble_eq_true rfl) dX5_readOp_26 ⟨Nat.le_of_ble_eq_true rfl, Nat.le_of_ble_eq_true rfl⟩ [none, some 0] (of_decide_eq_true rfl) (of_decide_eq_true rfl) rfl rfl rfl (fun H locs hw_9n hP hD hS => ?_)
    refine lv_if_eq (tgt := 40) hx hb dX5_readOp_29 (of_decide_eq_true rfl) (fun c_10 => ?_) (fun c_10 => ?_)
    · have hfn := (if_pos c_10).symm.trans hfn
      refine lv_aload_n hx hb dX5_readOp_40 rfl (lv_at hl 0 rfl) ?_
      refine va_get (D := (dC, dI)) (ci := 5) (v := .ref r0_0) (C := RX5) (T := TX5) (N := 4) hx hb hts zn_X5_readOp_X5 hown hK hP 0 rfl rfl 0 (of_decide_eq_true rfl) (hts (.fieldLink RX5 12 "ShortEnough$Parser" "words" "LShortEnough$Words;") zw_X5_readOp_505) (fun _ h9 => h9) rfl dX5_readOp_41 ?_
      refine lv_bipush (v := 42) hx hb dX5_readOp_44 zcb_42 ?_
      obtain ⟨o_11, hqo_11, hfn⟩ := zb_s hfn
      refine zcVb (ci := 10) (rest := []) (pc' := 49) (ws' := [zV5 h0 r0_0 v0_1 v0_2 v0_3, zV10 r0_0 r1_0 r1_1 v1_2 v1_3 v1_4 v1_5 v1_6 v1_7, zVi r1_1 k2 1200 f2, zVi r1_0 k3 13 f3]) hP hK hD hS hA ⟨hx, hb, hml, hown, hts⟩ (zf_X10_isSign l dC dI r0_0 42 r1_0 r1_1 v1_2 v1_3 v1_4 v1_5 v1_6 v1_7 o_11 hqo_11 H.size) (cwV 1 hts gX5_readOp_X10_isSign rfl rfl rfl zhd_X10_isSign ⟨Nat.le_of_ble_eq_true rfl, Nat.le_of_ble_eq_true rfl⟩) [1] rfl (of_decide_eq_true rfl) [] rfl rfl rfl rfl hl.1 rfl (Nat.le_of_ble_eq_true rfl) dX5_readOp_46 ⟨Nat.le_of_ble_eq_true rfl, Nat.le_of_ble_eq_true rfl⟩ [none, some 0] (of_decide_eq_true rfl) (of_decide_eq_true rfl) rfl rfl rfl (fun H locs hw_14n hP hD hS => ?_)
      refine lv_if_eq (tgt := 60) hx hb dX5_readOp_49 (of_decide_eq_true rfl) (fun c_15 => ?_) (fun c_15 => ?_)
      · have hfn := (if_pos c_15).symm.trans hfn
        refine lv_aload_n hx hb dX5_readOp_60 rfl (lv_at hl 0 rfl) ?_
        refine va_get (D := (dC, dI)) (ci := 5) (v := .ref r0_0) (C := RX5) (T := TX5) (N := 4) hx hb hts zn_X5_readOp_X5 hown hK hP 0 rfl rfl 0 (of_decide_eq_true rfl) (hts (.fieldLink RX5 12 "ShortEnough$Parser" "words" "LShortEnough$Words;") zw_X5_readOp_505) (fun _ h9 => h9) rfl dX5_readOp_61 ?_
        refine lv_bipush (v := 7) hx hb dX5_readOp_64 zcb_7 ?_
        obtain ⟨o_16, hqo_16, hfn⟩ := zb_s hfn
        refine zcVb (ci := 10) (rest := []) (pc' := 69) (ws' := [zV5 h0 r0_0 v0_1 v0_2 v0_3, zV10 r0_0 r1_0 r1_1 v1_2 v1_3 v1_4 v1_5 v1_6 v1_7, zVi r1_1 k2 1200 f2, zVi r1_0 k3 13 f3]) hP hK hD hS hA ⟨hx, hb, hml, hown, hts⟩ (zf_X10_isOwn l dC dI r0_0 7 r1_0 r1_1 v1_2 v1_3 v1_4 v1_5 v1_6 v1_7 o_16 hqo_16 H.size) (cwV 1 hts gX5_readOp_X10_isOwn rfl rfl rfl zhd_X10_isOwn ⟨Nat.le_of_ble_eq_true rfl, Nat.le_of_ble_eq_true rfl⟩) [1] rfl (of_decide_eq_true rfl) [] rfl rfl rfl rfl hl.1 rfl (Nat.le_of_ble_eq_true rfl) dX5_readOp_66 ⟨Nat.le_of_ble_eq_true rfl, Nat.le_of_ble_eq_true rfl⟩ [none, some 0] (of_decide_eq_true rfl) (of_decide_eq_true rfl) rfl rfl rfl (fun H locs hw_19n hP hD hS => ?_)
        refine lv_if_eq (tgt := 80) hx hb dX5_readOp_69 (of_decide_eq_true rfl) (fun c_20 => ?_) (fun c_20 => ?_)
        · have hfn := (if_pos c_20).symm.trans hfn
          refine lv_aload_n hx hb dX5_readOp_80 rfl (lv_at hl 0 rfl) ?_
          refine va_get (D := (dC, dI)) (ci := 5) (v := .ref r0_0) (C := RX5) (T := TX5) (N := 4) hx hb hts zn_X5_readOp_X5 hown hK hP 0 rfl rfl 0 (of_decide_eq_true rfl) (hts (.fieldLink RX5 12 "ShortEnough$Parser" "words" "LShortEnough$Words;") zw_X5_readOp_505) (fun _ h9 => h9) rfl dX5_readOp_81 ?_
          refine lv_bipush (v := 8) hx hb dX5_readOp_84 zcb_8 ?_
          obtain ⟨o_21, hqo_21, hfn⟩ := zb_s hfn
          refine zcVb (ci := 10) (rest := []) (pc' := 89) (ws' := [zV5 h0 r0_0 v0_1 v0_2 v0_3, zV10 r0_0 r1_0 r1_1 v1_2 v1_3 v1_4 v1_5 v1_6 v1_7, zVi r1_1 k2 1200 f2, zVi r1_0 k3 13 f3]) hP hK hD hS hA ⟨hx, hb, hml, hown, hts⟩ (zf_X10_isOwn l dC dI r0_0 8 r1_0 r1_1 v1_2 v1_3 v1_4 v1_5 v1_6 v1_7 o_21 hqo_21 H.size) (cwV 1 hts gX5_readOp_X10_isOwn rfl rfl rfl zhd_X10_isOwn ⟨Nat.le_of_ble_eq_true rfl, Nat.le_of_ble_eq_true rfl⟩) [1] rfl (of_decide_eq_true rfl) [] rfl rfl rfl rfl hl.1 rfl (Nat.le_of_ble_eq_true rfl) dX5_readOp_86 ⟨Nat.le_of_ble_eq_true rfl, Nat.le_of_ble_eq_true rfl⟩ [none, some 0] (of_decide_eq_true rfl) (of_decide_eq_true rfl) rfl rfl rfl (fun H locs hw_24n hP hD hS => ?_)
          refine lv_if_eq (tgt := 100) hx hb dX5_readOp_89 (of_decide_eq_true rfl) (fun c_25 => ?_) (fun c_25 => ?_)
          · have hfn := (if_pos c_25).symm.trans hfn
            refine lv_aload_n hx hb dX5_readOp_100 rfl (lv_at hl 0 rfl) ?_
            refine lv_iconst (v := 1) hx hb dX5_readOp_101 zci_1 ?_
            refine lv_aload_n hx hb dX5_readOp_102 rfl (lv_at hl 0 rfl) ?_
            refine va_get (D := (dC, dI)) (ci := 5) (v := .ref r0_0) (C := RX5) (T := TX5) (N := 4) hx hb hts zn_X5_readOp_X5 hown hK hP 0 rfl rfl 0 (of_decide_eq_true rfl) (hts (.fieldLink RX5 12 "ShortEnough$Parser" "words" "LShortEnough$Words;") zw_X5_readOp_505) (fun _ h9 => h9) rfl dX5_readOp_103 ?_
            refine va_get (D := (dC, dI)) (ci := 10) (v := .int v1_5) (C := RX10) (T := TX10) (N := 8) hx hb hts zn_X5_readOp_X10 hown hK hP 1 rfl rfl 5 (of_decide_eq_true rfl) (hts (.fieldLink RX5 64 "ShortEnough$Words" "start" "I") zw_X5_readOp_507) (fun _ h9 => h9) rfl dX5_readOp_106 ?_
            obtain ⟨o_26, hqo_26, hfn⟩ := zb_s hfn
            refine zcVb (ci := 5) (rest := []) (pc' := 112) (ws' := [zV5 h0 r0_0 v0_1 o_26.2.1 o_26.2.2, zV10 r0_0 r1_0 r1_1 v1_2 v1_3 v1_4 v1_5 v1_6 v1_7, zVi r1_1 k2 1200 f2, zVi r1_0 k3 13 f3]) hP hK hD hS hA ⟨hx, hb, hml, hown, hts⟩ (zf_X5_stopAt l dC dI h0 1 v1_5 r0_0 v0_1 v0_2 v0_3 o_26 hqo_26 H.size) (cwV 2 hts gX5_readOp_X5_stopAt rfl rfl rfl zhd_X5_stopAt ⟨Nat.le_of_ble_eq_true rfl, Nat.le_of_ble_eq_true rfl⟩) [0] rfl (of_decide_eq_true rfl) [] rfl rfl rfl rfl hl.1 rfl (Nat.le_of_ble_eq_true rfl) dX5_readOp_109 ⟨Nat.le_of_ble_eq_true rfl, Nat.le_of_ble_eq_true rfl⟩ [some 0] (of_decide_eq_true rfl) (of_decide_eq_true rfl) rfl rfl rfl (fun H locs hw_29n hP hD hS => ?_)
            have ho := Option.some.inj hfn
            subst ho
            exact zrz hx hb hr hw_29n hK hP hD hS hQ ⟨rfl, hw_29n⟩ hlocks dX5_readOp_112
          have hfn := (if_neg c_25).symm.trans hfn
          refine lv_aload_n hx hb dX5_readOp_92 rfl (lv_at hl 0 rfl) ?_
          refine lv_iconst (v := 5) hx hb dX5_readOp_93 zci_5 ?_
          refine va_put (D := (dC, dI)) (ci := 5) (v := .int 5) (ty := .int) (C := RX5) (T := TX5) (N := 4) hx hb hts zn_X5_readOp_X5 tyX5 tyX5_ok nmX5 hown hK hP hD hS 0 rfl rfl 1 (of_decide_eq_true rfl) (hts (.fieldLink RX5 102 "ShortEnough$Parser" "got" "I") zw_X5_readOp_508) (fun _ h9 => h9) rfl (tyX5_ok 1 (of_decide_eq_true rfl)) rfl rfl (Nat.le_of_ble_eq_true rfl) dX5_readOp_94 (fun H locs hP hD hS => ?_)
          have hP : va_P (dC, dI) vwCl [zV5 h0 r0_0 5 v0_2 v0_3, zV10 r0_0 r1_0 r1_1 v1_2 v1_3 v1_4 v1_5 v1_6 v1_7, zVi r1_1 k2 1200 f2, zVi r1_0 k3 13 f3] H := hP
          have hD := zDW hD hP rfl
          refine lv_goto (tgt := 113) hx hb dX5_readOp_97 (of_decide_eq_true rfl) ?_
          refine lv_aload_n hx hb dX5_readOp_113 rfl (lv_at hl 0 rfl) ?_
          refine va_get (D := (dC, dI)) (ci := 5) (v := .ref r0_0) (C := RX5) (T := TX5) (N := 4) hx hb hts zn_X5_readOp_X5 hown hK hP 0 rfl rfl 0 (of_decide_eq_true rfl) (hts (.fieldLink RX5 12 "ShortEnough$Parser" "words" "LShortEnough$Words;") zw_X5_readOp_505) (fun _ h9 => h9) rfl dX5_readOp_114 ?_
          obtain ⟨o_30, hqo_30, hfn⟩ := zb_s hfn
          refine zcVv (ci := 10) (rest := []) (pc' := 120) (ws' := [zV5 h0 r0_0 5 v0_2 v0_3, zV10 r0_0 r1_0 r1_1 v1_2 o_30.1 o_30.2.1 o_30.2.2.1 o_30.2.2.2.1 o_30.2.2.2.2, zVi r1_1 k2 1200 f2, zVi r1_0 k3 13 f3]) hP hK hD hS hA ⟨hx, hb, hml, hown, hts⟩ (zf_X10_advance l dC dI r0_0 r1_0 r1_1 v1_2 v1_3 v1_4 v1_5 v1_6 v1_7 k2 f2 k3 f3 o_30 hqo_30 H.size) (cwV 0 hts gX5_readOp_X10_advance rfl rfl rfl zhd_X10_advance ⟨Nat.le_of_ble_eq_true rfl, Nat.le_of_ble_eq_true rfl⟩) [1, 2, 3] rfl (of_decide_eq_true rfl) [0, 1] rfl rfl rfl rfl hl.1 rfl (Nat.le_of_ble_eq_true rfl) dX5_readOp_117 ⟨Nat.le_of_ble_eq_true rfl, Nat.le_of_ble_eq_true rfl⟩ [none, some 0, some 1, some 2] (of_decide_eq_true rfl) (of_decide_eq_true rfl) rfl rfl rfl (fun H locs hP hD hS => ?_)
          refine lv_iconst (v := 1) hx hb dX5_readOp_120 zci_1 ?_
          have ho := Option.some.inj hfn
          subst ho
          exact zrz hx hb hr rfl hK hP hD hS hQ ⟨rfl, zB1⟩ hlocks dX5_readOp_121
        have hfn := (if_neg c_20).symm.trans hfn
        refine lv_aload_n hx hb dX5_readOp_72 rfl (lv_at hl 0 rfl) ?_
        refine lv_iconst (v := 4) hx hb dX5_readOp_73 zci_4 ?_
        refine va_put (D := (dC, dI)) (ci := 5) (v := .int 4) (ty := .int) (C := RX5) (T := TX5) (N := 4) hx hb hts zn_X5_readOp_X5 tyX5 tyX5_ok nmX5 hown hK hP hD hS 0 rfl rfl 1 (of_decide_eq_true rfl) (hts (.fieldLink RX5 102 "ShortEnough$Parser" "got" "I") zw_X5_readOp_508) (fun _ h9 => h9) rfl (tyX5_ok 1 (of_decide_eq_true rfl)) rfl rfl (Nat.le_of_ble_eq_true rfl) dX5_readOp_74 (fun H locs hP hD hS => ?_)
        have hP : va_P (dC, dI) vwCl [zV5 h0 r0_0 4 v0_2 v0_3, zV10 r0_0 r1_0 r1_1 v1_2 v1_3 v1_4 v1_5 v1_6 v1_7, zVi r1_1 k2 1200 f2, zVi r1_0 k3 13 f3] H := hP
        have hD := zDW hD hP rfl
        refine lv_goto (tgt := 113) hx hb dX5_readOp_77 (of_decide_eq_true rfl) ?_
        refine lv_aload_n hx hb dX5_readOp_113 rfl (lv_at hl 0 rfl) ?_
        refine va_get (D := (dC, dI)) (ci := 5) (v := .ref r0_0) (C := RX5) (T := TX5) (N := 4) hx hb hts zn_X5_readOp_X5 hown hK hP 0 rfl rfl 0 (of_decide_eq_true rfl) (hts (.fieldLink RX5 12 "ShortEnough$Parser" "words" "LShortEnough$Words;") zw_X5_readOp_505) (fun _ h9 => h9) rfl dX5_readOp_114 ?_
        obtain ⟨o_34, hqo_34, hfn⟩ := zb_s hfn
        refine zcVv (ci := 10) (rest := []) (pc' := 120) (ws' := [zV5 h0 r0_0 4 v0_2 v0_3, zV10 r0_0 r1_0 r1_1 v1_2 o_34.1 o_34.2.1 o_34.2.2.1 o_34.2.2.2.1 o_34.2.2.2.2, zVi r1_1 k2 1200 f2, zVi r1_0 k3 13 f3]) hP hK hD hS hA ⟨hx, hb, hml, hown, hts⟩ (zf_X10_advance l dC dI r0_0 r1_0 r1_1 v1_2 v1_3 v1_4 v1_5 v1_6 v1_7 k2 f2 k3 f3 o_34 hqo_34 H.size) (cwV 0 hts gX5_readOp_X10_advance rfl rfl rfl zhd_X10_advance ⟨Nat.le_of_ble_eq_true rfl, Nat.le_of_ble_eq_true rfl⟩) [1, 2, 3] rfl (of_decide_eq_true rfl) [0, 1] rfl rfl rfl rfl hl.1 rfl (Nat.le_of_ble_eq_true rfl) dX5_readOp_117 ⟨Nat.le_of_ble_eq_true rfl, Nat.le_of_ble_eq_true rfl⟩ [none, some 0, some 1, some 2] (of_decide_eq_true rfl) (of_decide_eq_true rfl) rfl rfl rfl (fun H locs hP hD hS => ?_)
        refine lv_iconst (v := 1) hx hb dX5_readOp_120 zci_1 ?_
        have ho := Option.some.inj hfn
        subst ho
        exact zrz hx hb hr rfl hK hP hD hS hQ ⟨rfl, zB1⟩ hlocks dX5_readOp_121
      have hfn := (if_neg c_15).symm.trans hfn
      refine lv_aload_n hx hb dX5_readOp_52 rfl (lv_at hl 0 rfl) ?_
      refine lv_iconst (v := 3) hx hb dX5_readOp_53 zci_3 ?_
      refine va_put (D := (dC, dI)) (ci := 5) (v := .int 3) (ty := .int) (C := RX5) (T := TX5) (N := 4) hx hb hts zn_X5_readOp_X5 tyX5 tyX5_ok nmX5 hown hK hP hD hS 0 rfl rfl 1 (of_decide_eq_true rfl) (hts (.fieldLink RX5 102 "ShortEnough$Parser" "got" "I") zw_X5_readOp_508) (fun _ h9 => h9) rfl (tyX5_ok 1 (of_decide_eq_true rfl)) rfl rfl (Nat.le_of_ble_eq_true rfl) dX5_readOp_54 (fun H locs hP hD hS => ?_)
      have hP : va_P (dC, dI) vwCl [zV5 h0 r0_0 3 v0_2 v0_3, zV10 r0_0 r1_0 r1_1 v1_2 v1_3 v1_4 v1_5 v1_6 v1_7, zVi r1_1 k2 1200 f2, zVi r1_0 k3 13 f3] H := hP
      have hD := zDW hD hP rfl
      refine lv_goto (tgt := 113) hx hb dX5_readOp_57 (of_decide_eq_true rfl) ?_
      refine lv_aload_n hx hb dX5_readOp_113 rfl (lv_at hl 0 rfl) ?_
      refine va_get (D := (dC, dI)) (ci := 5) (v := .ref r0_0) (C := RX5) (T := TX5) (N := 4) hx hb hts zn_X5_readOp_X5 hown hK hP 0 rfl rfl 0 (of_decide_eq_true rfl) (hts (.fieldLink RX5 12 "ShortEnough$Parser" "words" "LShortEnough$Words;") zw_X5_readOp_505) (fun _ h9 => h9) rfl dX5_readOp_114 ?_
      obtain ⟨o_38, hqo_38, hfn⟩ := zb_s hfn
      refine zcVv (ci := 10) (rest := []) (pc' := 120) (ws' := [zV5 h0 r0_0 3 v0_2 v0_3, zV10 r0_0 r1_0 r1_1 v1_2 o_38.1 o_38.2.1 o_38.2.2.1 o_38.2.2.2.1 o_38.2.2.2.2, zVi r1_1 k2 1200 f2, zVi r1_0 k3 13 f3]) hP hK hD hS hA ⟨hx, hb, hml, hown, hts⟩ (zf_X10_advance l dC dI r0_0 r1_0 r1_1 v1_2 v1_3 v1_4 v1_5 v1_6 v1_7 k2 f2 k3 f3 o_38 hqo_38 H.size) (cwV 0 hts gX5_readOp_X10_advance rfl rfl rfl zhd_X10_advance ⟨Nat.le_of_ble_eq_true rfl, Nat.le_of_ble_eq_true rfl⟩) [1, 2, 3] rfl (of_decide_eq_true rfl) [0, 1] rfl rfl rfl rfl hl.1 rfl (Nat.le_of_ble_eq_true rfl) dX5_readOp_117 ⟨Nat.le_of_ble_eq_true rfl, Nat.le_of_ble_eq_true rfl⟩ [none, some 0, some 1, some 2] (of_decide_eq_true rfl) (of_decide_eq_true rfl) rfl rfl rfl (fun H locs hP hD hS => ?_)
      refine lv_iconst (v := 1) hx hb dX5_readOp_120 zci_1 ?_
      have ho := Option.some.inj hfn
      subst ho
      exact zrz hx hb hr rfl hK hP hD hS hQ ⟨rfl, zB1⟩ hlocks dX5_readOp_121
    have hfn := (if_neg c_10).symm.trans hfn
    refine lv_aload_n hx hb dX5_readOp_32 rfl (lv_at hl 0 rfl) ?_
    refine lv_iconst (v := 2) hx hb dX5_readOp_33 zci_2 ?_
    refine va_put (D := (dC, dI)) (ci := 5) (v := .int 2) (ty := .int) (C := RX5) (T := TX5) (N := 4) hx hb hts zn_X5_readOp_X5 tyX5 tyX5_ok nmX5 hown hK hP hD hS 0 rfl rfl 1 (of_decide_eq_true rfl) (hts (.fieldLink RX5 102 "ShortEnough$Parser" "got" "I") zw_X5_readOp_508) (fun _ h9 => h9) rfl (tyX5_ok 1 (of_decide_eq_true rfl)) rfl rfl (Nat.le_of_ble_eq_true rfl) dX5_readOp_34 (fun H locs hP hD hS => ?_)
    have hP : va_P (dC, dI) vwCl [zV5 h0 r0_0 2 v0_2 v0_3, zV10 r0_0 r1_0 r1_1 v1_2 v1_3 v1_4 v1_5 v1_6 v1_7, zVi r1_1 k2 1200 f2, zVi r1_0 k3 13 f3] H := hP
    have hD := zDW hD hP rfl
    refine lv_goto (tgt := 113) hx hb dX5_readOp_37 (of_decide_eq_true rfl) ?_
    refine lv_aload_n hx hb dX5_readOp_113 rfl (lv_at hl 0 rfl) ?_
    refine va_get (D := (dC, dI)) (ci := 5) (v := .ref r0_0) (C := RX5) (T := TX5) (N := 4) hx hb hts zn_X5_readOp_X5 hown hK hP 0 rfl rfl 0 (of_decide_eq_true rfl) (hts (.fieldLink RX5 12 "ShortEnough$Parser" "words" "LShortEnough$Words;") zw_X5_readOp_505) (fun _ h9 => h9) rfl dX5_readOp_114 ?_
    obtain ⟨o_42, hqo_42, hfn⟩ := zb_s hfn
    refine zcVv (ci := 10) (rest := []) (pc' := 120) (ws' := [zV5 h0 r0_0 2 v0_2 v0_3, zV10 r0_0 r1_0 r1_1 v1_2 o_42.1 o_42.2.1 o_42.2.2.1 o_42.2.2.2.1 o_42.2.2.2.2, zVi r1_1 k2 1200 f2, zVi r1_0 k3 13 f3]) hP hK hD hS hA ⟨hx, hb, hml, hown, hts⟩ (zf_X10_advance l dC dI r0_0 r1_0 r1_1 v1_2 v1_3 v1_4 v1_5 v1_6 v1_7 k2 f2 k3 f3 o_42 hqo_42 H.size) (cwV 0 hts gX5_readOp_X10_advance rfl rfl rfl zhd_X10_advance ⟨Nat.le_of_ble_eq_true rfl, Nat.le_of_ble_eq_true rfl⟩) [1, 2, 3] rfl (of_decide_eq_true rfl) [0, 1] rfl rfl rfl rfl hl.1 rfl (Nat.le_of_ble_eq_true rfl) dX5_readOp_117 ⟨Nat.le_of_ble_eq_true rfl, Nat.le_of_ble_eq_true rfl⟩ [none, some 0, some 1, some 2] (of_decide_eq_true rfl) (of_decide_eq_true rfl) rfl rfl rfl (fun H locs hP hD hS => ?_)
    refine lv_iconst (v := 1) hx hb dX5_readOp_120 zci_1 ?_
    have ho := Option.some.inj hfn
    subst ho
    exact zrz hx hb hr rfl hK hP hD hS hQ ⟨rfl, zB1⟩ hlocks dX5_readOp_121
  have hfn := (if_neg c_5).symm.trans hfn
  refine lv_aload_n hx hb dX5_readOp_12 rfl (lv_at hl 0 rfl) ?_
  refine lv_iconst (v := 1) hx hb dX5_readOp_13 zci_1 ?_
  refine va_put (D := (dC, dI)) (ci := 5) (v := .int 1) (ty := .int) (C := RX5) (T := TX5) (N := 4) hx hb hts zn_X5_readOp_X5 tyX5 tyX5_ok nmX5 hown hK hP hD hS 0 rfl rfl 1 (of_decide_eq_true rfl) (hts (.fieldLink RX5 102 "ShortEnough$Parser" "got" "I") zw_X5_readOp_508) (fun _ h9 => h9) rfl (tyX5_ok 1 (of_decide_eq_true rfl)) rfl rfl (Nat.le_of_ble_eq_true rfl) dX5_readOp_14 (fun H locs hP hD hS => ?_)
  have hP : va_P (dC, dI) vwCl [zV5 h0 r0_0 1 v0_2 v0_3, zV10 r0_0 r1_0 r1_1 v1_2 v1_3 v1_4 v1_5 v1_6 v1_7, zVi r1_1 k2 1200 f2, zVi r1_0 k3 13 f3] H := hP
  have hD := zDW hD hP rfl
  refine lv_goto (tgt := 113) hx hb dX5_readOp_17 (of_decide_eq_true rfl) ?_
  refine lv_aload_n hx hb dX5_readOp_113 rfl (lv_at hl 0 rfl) ?_
  refine va_get (D := (dC, dI)) (ci := 5) (v := .ref r0_0) (C := RX5) (T := TX5) (N := 4) hx hb hts zn_X5_readOp_X5 hown hK hP 0 rfl rfl 0 (of_decide_eq_true rfl) (hts (.fieldLink RX5 12 "ShortEnough$Parser" "words" "LShortEnough$Words;") zw_X5_readOp_505) (fun _ h9 => h9) rfl dX5_readOp_114 ?_
  obtain ⟨o_46, hqo_46, hfn⟩ := zb_s hfn
  refine zcVv (ci := 10) (rest := []) (pc' := 120) (ws' := [zV5 h0 r0_0 1 v0_2 v0_3, zV10 r0_0 r1_0 r1_1 v1_2 o_46.1 o_46.2.1 o_46.2.2.1 o_46.2.2.2.1 o_46.2.2.2.2, zVi r1_1 k2 1200 f2, zVi r1_0 k3 13 f3]) hP hK hD hS hA ⟨hx, hb, hml, hown, hts⟩ (zf_X10_advance l dC dI r0_0 r1_0 r1_1 v1_2 v1_3 v1_4 v1_5 v1_6 v1_7 k2 f2 k3 f3 o_46 hqo_46 H.size) (cwV 0 hts gX5_readOp_X10_advance rfl rfl rfl zhd_X10_advance ⟨Nat.le_of_ble_eq_true rfl, Nat.le_of_ble_eq_true rfl⟩) [1, 2, 3] rfl (of_decide_eq_true rfl) [0, 1] rfl rfl rfl rfl hl.1 rfl (Nat.le_of_ble_eq_true rfl) dX5_readOp_117 ⟨Nat.le_of_ble_eq_true rfl, Nat.le_of_ble_eq_true rfl⟩ [none, some 0, some 1, some 2] (of_decide_eq_true rfl) (of_decide_eq_true rfl) rfl rfl rfl (fun H locs hP hD hS => ?_)
  refine lv_iconst (v := 1) hx hb dX5_readOp_120 zci_1 ?_
  have ho := Option.some.inj hfn
  subst ho
  exact zrz hx hb hr rfl hK hP hD hS hQ ⟨rfl, zB1⟩ hlocks dX5_readOp_121
theorem zn_X5_readLet_X5 : ∀ w ∈ wsX50, w ∈ wsX5_readLet := fun _ h => List.mem_cons_of_mem _ (List.mem_append_left _ (List.mem_append_left _ (List.mem_append_left _ (List.mem_append_right _ h))))
theorem zw_X5_readLet_489 : Cond.fieldLink RX5 102 "ShortEnough$Parser" "got" "I" ∈ wsX5_readLet := List.mem_of_getElem? (i := 1) (by decide +kernel)
theorem zn_X5_readLet_X9 : ∀ w ∈ wsX90, w ∈ wsX5_readLet := fun _ h => List.mem_cons_of_mem _ (List.mem_append_left _ (List.mem_append_left _ (List.mem_append_right _ h)))
theorem zw_X5_readLet_510 : Cond.fieldLink RX5 44 "ShortEnough$Task" "numbers" "LShortEnough$Numbers;" ∈ wsX5_readLet := List.mem_of_getElem? (i := 2) (by decide +kernel)
set_option maxHeartbeats 4000000 in
set_option maxRecDepth 100000 in
theorem zf_X5_readLet (l : Launch) (dC : Nat → ClassId) (dI : Nat → Nat → Nat) (h0 : Nat) (h1 : Nat) (r0_0 : Nat) (v0_1 : Int32) (v0_2 : Int32) (v0_3 : Int32) (r1_0 : Nat) (r1_1 : Nat) (v1_2 : Int32) (v1_3 : Int32) (v1_4 : Int32) (v1_5 : Int32) (v1_6 : Int32) (v1_7 : Int32) (v2_0 : Int32) (r2_1 : Nat) (r2_2 : Nat) (r2_3 : Nat) (r2_4 : Nat) (v2_5 : Int32) (r2_6 : Nat) (r2_7 : Nat) (r2_8 : Nat) (k3 : Nat) (f3 : Nat → Int32) (v4_0 : Int32) (v4_1 : Int32) (r4_2 : Nat) (r4_3 : Nat) (r4_4 : Nat) (r4_5 : Nat) (r4_6 : Nat) (r4_7 : Nat) (r4_8 : Nat) (r4_9 : Nat) (k5 : Nat) (f5 : Nat → Int32) (k6 : Nat) (f6 : Nat → Int32) (k7 : Nat) (f7 : Nat → Int32) (k8 : Nat) (f8 : Nat → Int32) (k9 : Nat) (f9 : Nat → Int32) (k10 : Nat) (f10 : Nat → Int32) (k11 : Nat) (f11 : Nat → Int32) (k12 : Nat) (f12 : Nat → Int32) (k13 : Nat) (f13 : Nat → Int32) (k14 : Nat) (f14 : Nat → Int32) (o : Int32 × Int32 × Int32 × Int32 × Int32 × Int32 × Int32 × Int32 × Int32 × Int32 × Int32 × (Nat → Int32) × (Nat → Int32) × (Nat → Int32) × (Nat → Int32) × (Nat → Int32) × (Nat → Int32) × (Nat → Int32) × (Nat → Int32)) (hfn : fn_X5_readLet v0_1 v0_2 v0_3 v1_2 v1_3 v1_4 v1_5 v1_6 v1_7 v2_0 f3 v4_0 v4_1 f5 f6 f7 f8 f9 f10 f11 f12 f13 f14 = some o) (sz : Nat) : zMi l yX5_readLet wsX5_readLet ({ frames := 4, cells := 0, slots := 0, locals := 95 }) (dC, dI) vwCl [.ref h0, .ref h1] [zV5 h0 r0_0 v0_1 v0_2 v0_3, zV10 r0_0 r1_0 r1_1 v1_2 v1_3 v1_4 v1_5 v1_6 v1_7, zV9 h1 v2_0 r2_1 r2_2 r2_3 r2_4 v2_5 r2_6 r2_7 r2_8, zVi r2_1 k3 4 f3, zV4 r2_6 v4_0 v4_1 r4_2 r4_3 r4_4 r4_5 r4_6 r4_7 r4_8 r4_9, zVi r4_2 k5 14 f5, zVi r1_1 k6 1200 f6, zVi r1_0 k7 13 f7, zVi r4_8 k8 28 f8, zVi r4_9 k9 28 f9, zVi r4_3 k10 14 f10, zVi r4_4 k11 14 f11, zVi r4_5 k12 14 f12, zVi r4_7 k13 14 f13, zVi r4_6 k14 14 f14] [(k3, .int), (k5, .int), (k6, .byte), (k7, .int), (k8, .int), (k9, .int), (k10, .int), (k11, .int), (k12, .int), (k13, .int), (k14, .int)] (fun r _ => r = o.1 ∧ narrow .boolean (.int o.1) = .int o.1) [zV5 h0 r0_0 o.2.1 o.2.2.1 o.2.2.2.1, zV10 r0_0 r1_0 r1_1 v1_2 o.2.2.2.2.1 o.2.2.2.2.2.1 o.2.2.2.2.2.2.1 o.2.2.2.2.2.2.2.1 o.2.2.2.2.2.2.2.2.1, zV9 h1 v2_0 r2_1 r2_2 r2_3 r2_4 v2_5 r2_6 r2_7 r2_8, zVi r2_1 k3 4 f3, zV4 r2_6 o.2.2.2.2.2.2.2.2.2.1 o.2.2.2.2.2.2.2.2.2.2.1 r4_2 r4_3 r4_4 r4_5 r4_6 r4_7 r4_8 r4_9, zVi r4_2 k5 14 o.2.2.2.2.2.2.2.2.2.2.2.1, zVi r1_1 k6 1200 f6, zVi r1_0 k7 13 f7, zVi r4_8 k8 28 o.2.2.2.2.2.2.2.2.2.2.2.2.1, zVi r4_9 k9 28 o.2.2.2.2.2.2.2.2.2.2.2.2.2.1, zVi r4_3 k10 14 o.2.2.2.2.2.2.2.2.2.2.2.2.2.2.1, zVi r4_4 k11 14 o.2.2.2.2.2.2.2.2.2.2.2.2.2.2.2.1, zVi r4_5 k12 14 o.2.2.2.2.2.2.2.2.2.2.2.2.2.2.2.2.1, zVi r4_7 k13 14 o.2.2.2.2.2.2.2.2.2.2.2.2.2.2.2.2.2.1, zVi r4_6 k14 14 o.2.2.2.2.2.2.2.2.2.2.2.2.2.2.2.2.2.2] [(k3, .int), (k5, .int), (k6, .byte), (k7, .int), (k8, .int), (k9, .int), (k10, .int), (k11, .int), (k12, .int), (k13, .int), (k14, .int)] sz := by
  refine zgoi (cc := cX5_readLet) (maxL := 4) (ret := (some .boolean)) (C0 := RX5) (lv0 := [(0, .ref h0), (1, .ref h1)]) zpl_X5 rfl rfl rfl (Nat.le_of_ble_eq_true rfl) ?_
  intro p e s m below meth c A ls Q hx hb hr hts hown hlocks hml hP hK hD hA hS hl hQ
  unfold fn_X5_readLet at hfn
  refine lv_aload_n hx hb dX5_readLet_0 rfl (lv_at hl 0 rfl) ?_
  refine lv_aload_n hx hb dX5_readLet_1 rfl (lv_at hl 1 rfl) ?_
  obtain ⟨o_1, hqo_1, hfn⟩ := zb_s hfn
  refine zcVb (ci := 5) (rest := []) (pc' := 5) (ws' := [zV5 h0 r0_0 o_1.2.1 o_1.2.2.1 o_1.2.2.2.1, zV10 r0_0 r1_0 r1_1 v1_2 o_1.2.2.2.2.1 o_1.2.2.2.2.2.1 o_1.2.2.2.2.2.2.1 o_1.2.2.2.2.2.2.2.1 o_1.2.2.2.2.2.2.2.2, zV9 h1 v2_0 r2_1 r2_2 r2_3 r2_4 v2_5 r2_6 r2_7 r2_8, zVi r2_1 k3 4 f3, zV4 r2_6 v4_0 v4_1 r4_2 r4_3 r4_4 r4_5 r4_6 r4_7 r4_8 r4_9, zVi r4_2 k5 14 f5, zVi r1_1 k6 1200 f6, zVi r1_0 k7 13 f7, zVi r4_8 k8 28 f8, zVi r4_9 k9 28 f9, zVi r4_3 k10 14 f10, zVi r4_4 k11 14 f11, zVi r4_5 k12 14 f12, zVi r4_7 k13 14 f13, zVi r4_6 k14 14 f14]) hP hK hD hS hA ⟨hx, hb, hml, hown, hts⟩ (zf_X5_readNewName l dC dI h0 h1 r0_0 v0_1 v0_2 v0_3 r1_0 r1_1 v1_2 v1_3 v1_4 v1_5 v1_6 v1_7 v2_0 r2_1 r2_2 r2_3 r2_4 v2_5 r2_6 r2_7 r2_8 k3 f3 v4_0 v4_1 r4_2 r4_3 r4_4 r4_5 r4_6 r4_7 r4_8 r4_9 k5 f5 k6 f6 k7 f7 o_1 hqo_1 s.heap.size) (cwV 1 hts gX5_readLet_X5_readNewName rfl rfl rfl zhd_X5_readNewName ⟨Nat.le_of_ble_eq_true rfl, Nat.le_of_ble_eq_true rfl⟩) [0, 1, 2, 3, 4, 5, 6, 7] rfl (of_decide_eq_true rfl) [0, 1, 2, 3] rfl rfl rfl rfl hl.1 rfl (Nat.le_of_ble_eq_true rfl) dX5_readLet_2 ⟨Nat.le_of_ble_eq_true rfl, Nat.le_of_ble_eq_true rfl⟩ [some 0, some 1, some 2, some 3, some 4, some 5, some 6, some 7] (of_decide_eq_true rfl) (of_decide_eq_true rfl) rfl rfl rfl (fun H locs hw_4n hP hD hS => ?_)
  refine lv_if_ne (tgt := 10) hx hb dX5_readLet_5 (of_decide_eq_true rfl) (fun c_5 => ?_) (fun c_5 => ?_)
  · have hfn := (if_neg c_5).symm.trans hfn
    refine lv_aload_n hx hb dX5_readLet_10 rfl (lv_at hl 0 rfl) ?_
    refine va_get (D := (dC, dI)) (ci := 5) (v := .int o_1.2.1) (C := RX5) (T := TX5) (N := 4) hx hb hts zn_X5_readLet_X5 hown hK hP 0 rfl rfl 1 (of_decide_eq_true rfl) (hts (.fieldLink RX5 102 "ShortEnough$Parser" "got" "I") zw_X5_readLet_489) (fun _ h9 => h9) rfl dX5_readLet_11 ?_
    refine lv_istore_n (lv' := [(2, .int o_1.2.1), (0, .ref h0), (1, .ref h1)]) hx hb dX5_readLet_14 rfl hl (of_decide_eq_true rfl) rfl (fun ls hl => ?_)
    refine lv_aload_n hx hb dX5_readLet_15 rfl (lv_at hl 1 rfl) ?_
    refine lv_bipush (v := 61) hx hb dX5_readLet_16 zcb_61 ?_
    obtain ⟨o_6, hqo_6, hfn⟩ := zb_s hfn
    refine zcVb (ci := 5) (rest := []) (pc' := 21) (ws' := [zV5 h0 r0_0 o_1.2.1 o_6.2.1 o_6.2.2.1, zV10 r0_0 r1_0 r1_1 v1_2 o_6.2.2.2.1 o_6.2.2.2.2.1 o_6.2.2.2.2.2.1 o_6.2.2.2.2.2.2.1 o_6.2.2.2.2.2.2.2, zV9 h1 v2_0 r2_1 r2_2 r2_3 r2_4 v2_5 r2_6 r2_7 r2_8, zVi r2_1 k3 4 f3, zV4 r2_6 v4_0 v4_1 r4_2 r4_3 r4_4 r4_5 r4_6 r4_7 r4_8 r4_9, zVi r4_2 k5 14 f5, zVi r1_1 k6 1200 f6, zVi r1_0 k7 13 f7, zVi r4_8 k8 28 f8, zVi r4_9 k9 28 f9, zVi r4_3 k10 14 f10, zVi r4_4 k11 14 f11, zVi r4_5 k12 14 f12, zVi r4_7 k13 14 f13, zVi r4_6 k14 14 f14]) hP hK hD hS hA ⟨hx, hb, hml, hown, hts⟩ (zf_X5_readSign l dC dI h0 61 r0_0 o_1.2.1 o_1.2.2.1 o_1.2.2.2.1 r1_0 r1_1 v1_2 o_1.2.2.2.2.1 o_1.2.2.2.2.2.1 o_1.2.2.2.2.2.2.1 o_1.2.2.2.2.2.2.2.1 o_1.2.2.2.2.2.2.2.2 k6 f6 k7 f7 o_6 hqo_6 H.size) (cwV 1 hts gX5_readLet_X5_readSign rfl rfl rfl zhd_X5_readSign ⟨Nat.le_of_ble_eq_true rfl, Nat.le_of_ble_eq_true rfl⟩) [0, 1, 6, 7] rfl (of_decide_eq_true rfl) [2, 3] rfl rfl rfl rfl hl.1 rfl (Nat.le_of_ble_eq_true rfl) dX5_readLet_18 ⟨Nat.le_of_ble_eq_true rfl, Nat.le_of_ble_eq_true rfl⟩ [some 0, some 1, none, none, none, none, some 2, some 3] (of_decide_eq_true rfl) (of_decide_eq_true rfl) rfl rfl rfl (fun H locs hw_9n hP hD hS => ?_)
    refine lv_if_eq (tgt := 40) hx hb dX5_readLet_21 (of_decide_eq_true rfl) (fun c_10 => ?_) (fun c_10 => ?_)
    · have hfn := (if_pos c_10).symm.trans hfn
      refine lv_iconst (v := 0) hx hb dX5_readLet_40 zci_0 ?_
      have ho := Option.some.inj hfn
      subst ho
      exact zrz hx hb hr rfl hK hP hD hS hQ ⟨rfl, zB0⟩ hlocks dX5_readLet_41
    have hfn := (if_neg c_10).symm.trans hfn
    refine lv_aload_n hx hb dX5_readLet_24 rfl (lv_at hl 1 rfl) ?_
    refine lv_aload_n hx hb dX5_readLet_25 rfl (lv_at hl 2 rfl) ?_
    refine lv_iconst (v := 0) hx hb dX5_readLet_26 zci_0 ?_
    obtain ⟨o_11, hqo_11, hfn⟩ := zb_s hfn
    refine zcVb (ci := 5) (rest := []) (pc' := 30) (ws' := [zV5 h0 r0_0 o_11.2.1 o_11.2.2.1 o_11.2.2.2.1, zV10 r0_0 r1_0 r1_1 v1_2 o_11.2.2.2.2.1 o_11.2.2.2.2.2.1 o_11.2.2.2.2.2.2.1 o_11.2.2.2.2.2.2.2.1 o_11.2.2.2.2.2.2.2.2.1, zV9 h1 v2_0 r2_1 r2_2 r2_3 r2_4 v2_5 r2_6 r2_7 r2_8, zVi r2_1 k3 4 f3, zV4 r2_6 v4_0 v4_1 r4_2 r4_3 r4_4 r4_5 r4_6 r4_7 r4_8 r4_9, zVi r4_2 k5 14 f5, zVi r1_1 k6 1200 f6, zVi r1_0 k7 13 f7, zVi r4_8 k8 28 o_11.2.2.2.2.2.2.2.2.2.1, zVi r4_9 k9 28 o_11.2.2.2.2.2.2.2.2.2.2, zVi r4_3 k10 14 f10, zVi r4_4 k11 14 f11, zVi r4_5 k12 14 f12, zVi r4_7 k13 14 f13, zVi r4_6 k14 14 f14]) hP hK hD hS hA ⟨hx, hb, hml, hown, hts⟩ (zf_X5_readWhat l dC dI h0 h1 0 r0_0 o_1.2.1 o_6.2.1 o_6.2.2.1 r1_0 r1_1 v1_2 o_6.2.2.2.1 o_6.2.2.2.2.1 o_6.2.2.2.2.2.1 o_6.2.2.2.2.2.2.1 o_6.2.2.2.2.2.2.2 k6 f6 k7 f7 v2_0 r2_1 r2_2 r2_3 r2_4 v2_5 r2_6 r2_7 r2_8 v4_0 v4_1 r4_2 r4_3 r4_4 r4_5 r4_6 r4_7 r4_8 r4_9 k8 f8 k9 f9 k5 f5 o_11 hqo_11 H.size) (cwV 2 hts gX5_readLet_X5_readWhat rfl rfl rfl zhd_X5_readWhat ⟨Nat.le_of_ble_eq_true rfl, Nat.le_of_ble_eq_true rfl⟩) [0, 1, 6, 7, 2, 4, 8, 9, 5] rfl (of_decide_eq_true rfl) [2, 3, 4, 5, 1] rfl rfl rfl rfl hl.1 rfl (Nat.le_of_ble_eq_true rfl) dX5_readLet_27 ⟨Nat.le_of_ble_eq_true rfl, Nat.le_of_ble_eq_true rfl⟩ [some 0, some 1, some 4, none, some 5, some 8, some 2, some 3, some 6, some 7] (of_decide_eq_true rfl) (of_decide_eq_true rfl) rfl rfl rfl (fun H locs hw_14n hP hD hS => ?_)
    refine lv_if_eq (tgt := 40) hx hb dX5_readLet_30 (of_decide_eq_true rfl) (fun c_15 => ?_) (fun c_15 => ?_)
    · have hfn := (if_pos c_15).symm.trans hfn
      refine lv_iconst (v := 0) hx hb dX5_readLet_40 zci_0 ?_
      have ho := Option.some.inj hfn
      subst ho
      exact zrz hx hb hr rfl hK hP hD hS hQ ⟨rfl, zB0⟩ hlocks dX5_readLet_41
    have hfn := (if_neg c_15).symm.trans hfn
    refine lv_aload_n hx hb dX5_readLet_33 rfl (lv_at hl 1 rfl) ?_
    obtain ⟨o_16, hqo_16, hfn⟩ := zb_s hfn
    refine zcVb (ci := 5) (rest := []) (pc' := 37) (ws' := [zV5 h0 r0_0 o_16.2.1 o_16.2.2.1 o_16.2.2.2.1, zV10 r0_0 r1_0 r1_1 v1_2 o_16.2.2.2.2.1 o_16.2.2.2.2.2.1 o_16.2.2.2.2.2.2.1 o_16.2.2.2.2.2.2.2.1 o_16.2.2.2.2.2.2.2.2, zV9 h1 v2_0 r2_1 r2_2 r2_3 r2_4 v2_5 r2_6 r2_7 r2_8, zVi r2_1 k3 4 f3, zV4 r2_6 v4_0 v4_1 r4_2 r4_3 r4_4 r4_5 r4_6 r4_7 r4_8 r4_9, zVi r4_2 k5 14 f5, zVi r1_1 k6 1200 f6, zVi r1_0 k7 13 f7, zVi r4_8 k8 28 o_11.2.2.2.2.2.2.2.2.2.1, zVi r4_9 k9 28 o_11.2.2.2.2.2.2.2.2.2.2, zVi r4_3 k10 14 f10, zVi r4_4 k11 14 f11, zVi r4_5 k12 14 f12, zVi r4_7 k13 14 f13, zVi r4_6 k14 14 f14]) hP hK hD hS hA ⟨hx, hb, hml, hown, hts⟩ (zf_X5_readOp l dC dI h0 r0_0 o_11.2.1 o_11.2.2.1 o_11.2.2.2.1 r1_0 r1_1 v1_2 o_11.2.2.2.2.1 o_11.2.2.2.2.2.1 o_11.2.2.2.2.2.2.1 o_11.2.2.2.2.2.2.2.1 o_11.2.2.2.2.2.2.2.2.1 k6 f6 k7 f7 o_16 hqo_16 H.size) (cwV 0 hts gX5_readLet_X5_readOp rfl rfl rfl zhd_X5_readOp ⟨Nat.le_of_ble_eq_true rfl, Nat.le_of_ble_eq_true rfl⟩) [0, 1, 6, 7] rfl (of_decide_eq_true rfl) [2, 3] rfl rfl rfl rfl hl.1 rfl (Nat.le_of_ble_eq_true rfl) dX5_readLet_34 ⟨Nat.le_of_ble_eq_true rfl, Nat.le_of_ble_eq_true rfl⟩ [some 0, some 1, none, none, none, none, some 2, some 3] (of_decide_eq_true rfl) (of_decide_eq_true rfl) rfl rfl rfl (fun H locs hw_19n hP hD hS => ?_)
    refine lv_if_ne (tgt := 42) hx hb dX5_readLet_37 (of_decide_eq_true rfl) (fun c_20 => ?_) (fun c_20 => ?_)
    · have hfn := (if_neg c_20).symm.trans hfn
      refine lv_aload_n hx hb dX5_readLet_42 rfl (lv_at hl 1 rfl) ?_
      refine va_get (D := (dC, dI)) (ci := 5) (v := .int o_16.2.1) (C := RX5) (T := TX5) (N := 4) hx hb hts zn_X5_readLet_X5 hown hK hP 0 rfl rfl 1 (of_decide_eq_true rfl) (hts (.fieldLink RX5 102 "ShortEnough$Parser" "got" "I") zw_X5_readLet_489) (fun _ h9 => h9) rfl dX5_readLet_43 ?_
      refine lv_istore_n (lv' := [(3, .int o_16.2.1), (2, .int o_1.2.1), (0, .ref h0), (1, .ref h1)]) hx hb dX5_readLet_46 rfl hl (of_decide_eq_true rfl) rfl (fun ls hl => ?_)
      refine lv_aload_n hx hb dX5_readLet_47 rfl (lv_at hl 2 rfl) ?_
      refine lv_aload_n hx hb dX5_readLet_48 rfl (lv_at hl 3 rfl) ?_
      refine lv_iconst (v := 1) hx hb dX5_readLet_49 zci_1 ?_
      obtain ⟨o_21, hqo_21, hfn⟩ := zb_s hfn
      refine zcVb (ci := 5) (rest := []) (pc' := 53) (ws' := [zV5 h0 r0_0 o_21.2.1 o_21.2.2.1 o_21.2.2.2.1, zV10 r0_0 r1_0 r1_1 v1_2 o_21.2.2.2.2.1 o_21.2.2.2.2.2.1 o_21.2.2.2.2.2.2.1 o_21.2.2.2.2.2.2.2.1 o_21.2.2.2.2.2.2.2.2.1, zV9 h1 v2_0 r2_1 r2_2 r2_3 r2_4 v2_5 r2_6 r2_7 r2_8, zVi r2_1 k3 4 f3, zV4 r2_6 v4_0 v4_1 r4_2 r4_3 r4_4 r4_5 r4_6 r4_7 r4_8 r4_9, zVi r4_2 k5 14 f5, zVi r1_1 k6 1200 f6, zVi r1_0 k7 13 f7, zVi r4_8 k8 28 o_21.2.2.2.2.2.2.2.2.2.1, zVi r4_9 k9 28 o_21.2.2.2.2.2.2.2.2.2.2, zVi r4_3 k10 14 f10, zVi r4_4 k11 14 f11, zVi r4_5 k12 14 f12, zVi r4_7 k13 14 f13, zVi r4_6 k14 14 f14]) hP hK hD hS hA ⟨hx, hb, hml, hown, hts⟩ (zf_X5_readWhat l dC dI h0 h1 1 r0_0 o_16.2.1 o_16.2.2.1 o_16.2.2.2.1 r1_0 r1_1 v1_2 o_16.2.2.2.2.1 o_16.2.2.2.2.2.1 o_16.2.2.2.2.2.2.1 o_16.2.2.2.2.2.2.2.1 o_16.2.2.2.2.2.2.2.2 k6 f6 k7 f7 v2_0 r2_1 r2_2 r2_3 r2_4 v2_5 r2_6 r2_7 r2_8 v4_0 v4_1 r4_2 r4_3 r4_4 r4_5 r4_6 r4_7 r4_8 r4_9 k8 o_11.2.2.2.2.2.2.2.2.2.1 k9 o_11.2.2.2.2.2.2.2.2.2.2 k5 f5 o_21 hqo_21 H.size) (cwV 2 hts gX5_readLet_X5_readWhat rfl rfl rfl zhd_X5_readWhat ⟨Nat.le_of_ble_eq_true rfl, Nat.le_of_ble_eq_true rfl⟩) [0, 1, 6, 7, 2, 4, 8, 9, 5] rfl (of_decide_eq_true rfl) [2, 3, 4, 5, 1] rfl rfl rfl rfl hl.1 rfl (Nat.le_of_ble_eq_true rfl) dX5_readLet_50 ⟨Nat.le_of_ble_eq_true rfl, Nat.le_of_ble_eq_true rfl⟩ [some 0, some 1, some 4, none, some 5, some 8, some 2, some 3, some 6, some 7] (of_decide_eq_true rfl) (of_decide_eq_true rfl) rfl rfl rfl (fun H locs hw_24n hP hD hS => ?_)
      refine lv_if_ne (tgt := 58) hx hb dX5_readLet_53 (of_decide_eq_true rfl) (fun c_25 => ?_) (fun c_25 => ?_)
      · have hfn := (if_neg c_25).symm.trans hfn
        refine lv_aload_n hx hb dX5_readLet_58 rfl (lv_at hl 3 rfl) ?_
        refine va_get (D := (dC, dI)) (ci := 9) (v := .ref r2_6) (C := RX9) (T := TX9) (N := 9) hx hb hts zn_X5_readLet_X9 hown hK hP 2 rfl rfl 6 (of_decide_eq_true rfl) (hts (.fieldLink RX5 44 "ShortEnough$Task" "numbers" "LShortEnough$Numbers;") zw_X5_readLet_510) (fun _ h9 => h9) rfl dX5_readLet_59 ?_
        refine lv_iload_n hx hb dX5_readLet_62 rfl (lv_at hl 1 rfl) ?_
        refine lv_iload_n hx hb dX5_readLet_63 rfl (lv_at hl 0 rfl) ?_
        obtain ⟨o_26, hqo_26, hfn⟩ := zb_s hfn
        refine zcVv (ci := 4) (rest := []) (pc' := 67) (ws' := [zV5 h0 r0_0 o_21.2.1 o_21.2.2.1 o_21.2.2.2.1, zV10 r0_0 r1_0 r1_1 v1_2 o_21.2.2.2.2.1 o_21.2.2.2.2.2.1 o_21.2.2.2.2.2.2.1 o_21.2.2.2.2.2.2.2.1 o_21.2.2.2.2.2.2.2.2.1, zV9 h1 v2_0 r2_1 r2_2 r2_3 r2_4 v2_5 r2_6 r2_7 r2_8, zVi r2_1 k3 4 f3, zV4 r2_6 o_26.1 o_26.2.1 r4_2 r4_3 r4_4 r4_5 r4_6 r4_7 r4_8 r4_9, zVi r4_2 k5 14 o_26.2.2.1, zVi r1_1 k6 1200 f6, zVi r1_0 k7 13 f7, zVi r4_8 k8 28 o_21.2.2.2.2.2.2.2.2.2.1, zVi r4_9 k9 28 o_21.2.2.2.2.2.2.2.2.2.2, zVi r4_3 k10 14 o_26.2.2.2.1, zVi r4_4 k11 14 o_26.2.2.2.2.1, zVi r4_5 k12 14 o_26.2.2.2.2.2.1, zVi r4_7 k13 14 o_26.2.2.2.2.2.2.1, zVi r4_6 k14 14 o_26.2.2.2.2.2.2.2]) hP hK hD hS hA ⟨hx, hb, hml, hown, hts⟩ (zf_X4_add l dC dI r2_6 o_1.2.1 o_16.2.1 v4_0 v4_1 r4_2 r4_3 r4_4 r4_5 r4_6 r4_7 r4_8 r4_9 k5 f5 k10 f10 k11 f11 k12 f12 k13 f13 k8 o_21.2.2.2.2.2.2.2.2.2.1 k14 f14 o_26 hqo_26 H.size) (cwV 2 hts gX5_readLet_X4_add rfl rfl rfl zhd_X4_add ⟨Nat.le_of_ble_eq_true rfl, Nat.le_of_ble_eq_true rfl⟩) [4, 5, 10, 11, 12, 13, 8, 14] rfl (of_decide_eq_true rfl) [1, 6, 7, 8, 9, 4, 10] rfl rfl rfl rfl hl.1 rfl (Nat.le_of_ble_eq_true rfl) dX5_readLet_64 ⟨Nat.le_of_ble_eq_true rfl, Nat.le_of_ble_eq_true rfl⟩ [none, none, none, none, some 0, some 1, none, none, some 6, none, some 2, some 3, some 4, some 5, some 7] (of_decide_eq_true rfl) (of_decide_eq_true rfl) rfl rfl rfl (fun H locs hP hD hS => ?_)
        refine lv_iconst (v := 1) hx hb dX5_readLet_67 zci_1 ?_
        have ho := Option.some.inj hfn
        subst ho
        exact zrz hx hb hr rfl hK hP hD hS hQ ⟨rfl, zB1⟩ hlocks dX5_readLet_68
      have hfn := (if_pos c_25).symm.trans hfn
      refine lv_iconst (v := 0) hx hb dX5_readLet_56 zci_0 ?_
      have ho := Option.some.inj hfn
      subst ho
      exact zrz hx hb hr rfl hK hP hD hS hQ ⟨rfl, zB0⟩ hlocks dX5_readLet_57
    have hfn := (if_pos c_20).symm.trans hfn
    refine lv_iconst (v := 0) hx hb dX5_readLet_40 zci_0 ?_
    have ho := Option.some.inj hfn
    subst ho
    exact zrz hx hb hr rfl hK hP hD hS hQ ⟨rfl, zB0⟩ hlocks dX5_readLet_41
  have hfn := (if_pos c_5).symm.trans hfn
  refine lv_iconst (v := 0) hx hb dX5_readLet_8 zci_0 ?_
  have ho := Option.some.inj hfn
  subst ho
  exact zrz hx hb hr rfl hK hP hD hS hQ ⟨rfl, zB0⟩ hlocks dX5_readLet_9
theorem zn_X5_readFixed_X9 : ∀ w ∈ wsX90, w ∈ wsX5_readFixed := fun _ h => List.mem_cons_of_mem _ (List.mem_append_left _ (List.mem_append_left _ (List.mem_append_left _ (List.mem_append_right _ h))))
theorem zw_X5_readFixed_512 : Cond.fieldLink RX5 44 "ShortEnough$Task" "numbers" "LShortEnough$Numbers;" ∈ wsX5_readFixed := List.mem_of_getElem? (i := 1) (by decide +kernel)
theorem zn_X5_readFixed_X5 : ∀ w ∈ wsX50, w ∈ wsX5_readFixed := fun _ h => List.mem_cons_of_mem _ (List.mem_append_left _ (List.mem_append_left _ (List.mem_append_right _ h)))
theorem zw_X5_readFixed_514 : Cond.fieldLink RX5 12 "ShortEnough$Parser" "words" "LShortEnough$Words;" ∈ wsX5_readFixed := List.mem_of_getElem? (i := 2) (by decide +kernel)
theorem zn_X5_readFixed_X10 : ∀ w ∈ wsX100, w ∈ wsX5_readFixed := fun _ h => List.mem_cons_of_mem _ (List.mem_append_left _ (List.mem_append_right _ h))
theorem zw_X5_readFixed_516 : Cond.fieldLink RX5 138 "ShortEnough$Words" "value" "I" ∈ wsX5_readFixed := List.mem_of_getElem? (i := 3) (by decide +kernel)
theorem zw_X5_readFixed_517 : Cond.fieldLink RX5 102 "ShortEnough$Parser" "got" "I" ∈ wsX5_readFixed := List.mem_of_getElem? (i := 4) (by decide +kernel)
set_option maxHeartbeats 4000000 in
set_option maxRecDepth 100000 in
theorem zf_X5_readFixed (l : Launch) (dC : Nat → ClassId) (dI : Nat → Nat → Nat) (h0 : Nat) (h1 : Nat) (r0_0 : Nat) (v0_1 : Int32) (v0_2 : Int32) (v0_3 : Int32) (v1_0 : Int32) (r1_1 : Nat) (r1_2 : Nat) (r1_3 : Nat) (r1_4 : Nat) (v1_5 : Int32) (r1_6 : Nat) (r1_7 : Nat) (r1_8 : Nat) (r2_0 : Nat) (r2_1 : Nat) (v2_2 : Int32) (v2_3 : Int32) (v2_4 : Int32) (v2_5 : Int32) (v2_6 : Int32) (v2_7 : Int32) (v3_0 : Int32) (v3_1 : Int32) (r3_2 : Nat) (r3_3 : Nat) (r3_4 : Nat) (r3_5 : Nat) (r3_6 : Nat) (r3_7 : Nat) (r3_8 : Nat) (r3_9 : Nat) (k4 : Nat) (f4 : Nat → Int32) (k5 : Nat) (f5 : Nat → Int32) (k6 : Nat) (f6 : Nat → Int32) (k7 : Nat) (f7 : Nat → Int32) (k8 : Nat) (f8 : Nat → Int32) (o : Int32 × Int32 × Int32 × Int32 × Int32 × Int32 × Int32 × Int32 × Int32 × (Nat → Int32)) (hfn : fn_X5_readFixed v0_1 v0_2 v0_3 v1_0 v2_2 v2_3 v2_4 v2_5 v2_6 v2_7 v3_0 f4 f5 f6 f7 f8 = some o) (sz : Nat) : zMi l yX5_readFixed wsX5_readFixed ({ frames := 3, cells := 0, slots := 0, locals := 67 }) (dC, dI) vwCl [.ref h0, .ref h1] [zV5 h0 r0_0 v0_1 v0_2 v0_3, zV9 h1 v1_0 r1_1 r1_2 r1_3 r1_4 v1_5 r1_6 r1_7 r1_8, zV10 r0_0 r2_0 r2_1 v2_2 v2_3 v2_4 v2_5 v2_6 v2_7, zV4 r1_6 v3_0 v3_1 r3_2 r3_3 r3_4 r3_5 r3_6 r3_7 r3_8 r3_9, zVi r3_2 k4 14 f4, zVi r2_1 k5 1200 f5, zVi r2_0 k6 13 f6, zVi r1_1 k7 4 f7, zVi r3_4 k8 14 f8] [(k4, .int), (k5, .byte), (k6, .int), (k7, .int), (k8, .int)] (fun r _ => r = o.1 ∧ narrow .boolean (.int o.1) = .int o.1) [zV5 h0 r0_0 o.2.1 o.2.2.1 o.2.2.2.1, zV9 h1 v1_0 r1_1 r1_2 r1_3 r1_4 v1_5 r1_6 r1_7 r1_8, zV10 r0_0 r2_0 r2_1 v2_2 o.2.2.2.2.1 o.2.2.2.2.2.1 o.2.2.2.2.2.2.1 o.2.2.2.2.2.2.2.1 o.2.2.2.2.2.2.2.2.1, zV4 r1_6 v3_0 v3_1 r3_2 r3_3 r3_4 r3_5 r3_6 r3_7 r3_8 r3_9, zVi r3_2 k4 14 f4, zVi r2_1 k5 1200 f5, zVi r2_0 k6 13 f6, zVi r1_1 k7 4 f7, zVi r3_4 k8 14 o.2.2.2.2.2.2.2.2.2] [(k4, .int), (k5, .byte), (k6, .int), (k7, .int), (k8, .int)] sz := by
  refine zgoi (cc := cX5_readFixed) (maxL := 3) (ret := (some .boolean)) (C0 := RX5) (lv0 := [(0, .ref h0), (1, .ref h1)]) zpl_X5 rfl rfl rfl (Nat.le_of_ble_eq_true rfl) ?_
  intro p e s m below meth c A ls Q hx hb hr hts hown hlocks hml hP hK hD hA hS hl hQ
  unfold fn_X5_readFixed at hfn
  refine lv_aload_n hx hb dX5_readFixed_0 rfl (lv_at hl 0 rfl) ?_
  refine lv_aload_n hx hb dX5_readFixed_1 rfl (lv_at hl 1 rfl) ?_
  refine va_get (D := (dC, dI)) (ci := 9) (v := .ref r1_6) (C := RX9) (T := TX9) (N := 9) hx hb hts zn_X5_readFixed_X9 hown hK hP 1 rfl rfl 6 (of_decide_eq_true rfl) (hts (.fieldLink RX5 44 "ShortEnough$Task" "numbers" "LShortEnough$Numbers;") zw_X5_readFixed_512) (fun _ h9 => h9) rfl dX5_readFixed_2 ?_
  refine lv_aload_n hx hb dX5_readFixed_5 rfl (lv_at hl 0 rfl) ?_
  refine va_get (D := (dC, dI)) (ci := 5) (v := .ref r0_0) (C := RX5) (T := TX5) (N := 4) hx hb hts zn_X5_readFixed_X5 hown hK hP 0 rfl rfl 0 (of_decide_eq_true rfl) (hts (.fieldLink RX5 12 "ShortEnough$Parser" "words" "LShortEnough$Words;") zw_X5_readFixed_514) (fun _ h9 => h9) rfl dX5_readFixed_6 ?_
  refine va_get (D := (dC, dI)) (ci := 10) (v := .int v2_6) (C := RX10) (T := TX10) (N := 8) hx hb hts zn_X5_readFixed_X10 hown hK hP 2 rfl rfl 6 (of_decide_eq_true rfl) (hts (.fieldLink RX5 138 "ShortEnough$Words" "value" "I") zw_X5_readFixed_516) (fun _ h9 => h9) rfl dX5_readFixed_9 ?_
  obtain ⟨o_1, hqo_1, hfn⟩ := zb_s hfn
  refine zcVi (ci := 4) (rest := [.ref h0]) (pc' := 15) (ws' := [zV5 h0 r0_0 v0_1 v0_2 v0_3, zV9 h1 v1_0 r1_1 r1_2 r1_3 r1_4 v1_5 r1_6 r1_7 r1_8, zV10 r0_0 r2_0 r2_1 v2_2 v2_3 v2_4 v2_5 v2_6 v2_7, zV4 r1_6 v3_0 v3_1 r3_2 r3_3 r3_4 r3_5 r3_6 r3_7 r3_8 r3_9, zVi r3_2 k4 14 f4, zVi r2_1 k5 1200 f5, zVi r2_0 k6 13 f6, zVi r1_1 k7 4 f7, zVi r3_4 k8 14 f8]) hP hK hD hS hA ⟨hx, hb, hml, hown, hts⟩ (zf_X4_find l dC dI r1_6 v2_6 v3_0 v3_1 r3_2 r3_3 r3_4 r3_5 r3_6 r3_7 r3_8 r3_9 k4 f4 o_1 hqo_1 s.heap.size) (cwV 1 hts gX5_readFixed_X4_find rfl rfl rfl zhd_X4_find ⟨Nat.le_of_ble_eq_true rfl, Nat.le_of_ble_eq_true rfl⟩) [3, 4] rfl (of_decide_eq_true rfl) [0] rfl rfl rfl rfl hl.1 rfl (Nat.le_of_ble_eq_true rfl) dX5_readFixed_12 ⟨Nat.le_of_ble_eq_true rfl, Nat.le_of_ble_eq_true rfl⟩ [none, none, none, some 0, some 1] (of_decide_eq_true rfl) (of_decide_eq_true rfl) rfl rfl rfl (fun H locs hP hD hS => ?_)
  obtain ⟨o_5, hqo_5, hfn⟩ := zb_s hfn
  refine zcVb (ci := 5) (rest := []) (pc' := 18) (ws' := [zV5 h0 r0_0 o_5.2.1 o_5.2.2.1 o_5.2.2.2.1, zV9 h1 v1_0 r1_1 r1_2 r1_3 r1_4 v1_5 r1_6 r1_7 r1_8, zV10 r0_0 r2_0 r2_1 v2_2 o_5.2.2.2.2.1 o_5.2.2.2.2.2.1 o_5.2.2.2.2.2.2.1 o_5.2.2.2.2.2.2.2.1 o_5.2.2.2.2.2.2.2.2, zV4 r1_6 v3_0 v3_1 r3_2 r3_3 r3_4 r3_5 r3_6 r3_7 r3_8 r3_9, zVi r3_2 k4 14 f4, zVi r2_1 k5 1200 f5, zVi r2_0 k6 13 f6, zVi r1_1 k7 4 f7, zVi r3_4 k8 14 f8]) hP hK hD hS hA ⟨hx, hb, hml, hown, hts⟩ (zf_X5_readKnown l dC dI h0 o_1 r0_0 v0_1 v0_2 v0_3 r2_0 r2_1 v2_2 v2_3 v2_4 v2_5 v2_6 v2_7 k5 f5 k6 f6 o_5 hqo_5 H.size) (cwV 1 hts gX5_readFixed_X5_readKnown rfl rfl rfl zhd_X5_readKnown ⟨Nat.le_of_ble_eq_true rfl, Nat.le_of_ble_eq_true rfl⟩) [0, 2, 5, 6] rfl (of_decide_eq_true rfl) [1, 2] rfl rfl rfl rfl hl.1 rfl (Nat.le_of_ble_eq_true rfl) dX5_readFixed_15 ⟨Nat.le_of_ble_eq_true rfl, Nat.le_of_ble_eq_true rfl⟩ [some 0, none, some 1, none, none, some 2, some 3] (of_decide_eq_true rfl) (of_decide_eq_true rfl) rfl rfl rfl (fun H locs hw_8n hP hD hS => ?_)
  refine lv_if_ne (tgt := 23) hx hb dX5_readFixed_18 (of_decide_eq_true rfl) (fun c_9 => ?_) (fun c_9 => ?_)
  · have hfn := (if_neg c_9).symm.trans hfn
    refine lv_aload_n hx hb dX5_readFixed_23 rfl (lv_at hl 0 rfl) ?_
    refine va_get (D := (dC, dI)) (ci := 5) (v := .int o_5.2.1) (C := RX5) (T := TX5) (N := 4) hx hb hts zn_X5_readFixed_X5 hown hK hP 0 rfl rfl 1 (of_decide_eq_true rfl) (hts (.fieldLink RX5 102 "ShortEnough$Parser" "got" "I") zw_X5_readFixed_517) (fun _ h9 => h9) rfl dX5_readFixed_24 ?_
    refine lv_istore_n (lv' := [(2, .int o_5.2.1), (0, .ref h0), (1, .ref h1)]) hx hb dX5_readFixed_27 rfl hl (of_decide_eq_true rfl) rfl (fun ls hl => ?_)
    refine lv_aload_n hx hb dX5_readFixed_28 rfl (lv_at hl 1 rfl) ?_
    refine lv_aload_n hx hb dX5_readFixed_29 rfl (lv_at hl 2 rfl) ?_
    refine lv_aload_n hx hb dX5_readFixed_30 rfl (lv_at hl 1 rfl) ?_
    refine va_get (D := (dC, dI)) (ci := 5) (v := .ref r0_0) (C := RX5) (T := TX5) (N := 4) hx hb hts zn_X5_readFixed_X5 hown hK hP 0 rfl rfl 0 (of_decide_eq_true rfl) (hts (.fieldLink RX5 12 "ShortEnough$Parser" "words" "LShortEnough$Words;") zw_X5_readFixed_514) (fun _ h9 => h9) rfl dX5_readFixed_31 ?_
    refine va_get (D := (dC, dI)) (ci := 10) (v := .int o_5.2.2.2.2.2.2.2.1) (C := RX10) (T := TX10) (N := 8) hx hb hts zn_X5_readFixed_X10 hown hK hP 2 rfl rfl 6 (of_decide_eq_true rfl) (hts (.fieldLink RX5 138 "ShortEnough$Words" "value" "I") zw_X5_readFixed_516) (fun _ h9 => h9) rfl dX5_readFixed_34 ?_
    obtain ⟨o_10, hqo_10, hfn⟩ := zb_s hfn
    refine zcVi (ci := 9) (rest := [.ref h0]) (pc' := 40) (ws' := [zV5 h0 r0_0 o_5.2.1 o_5.2.2.1 o_5.2.2.2.1, zV9 h1 v1_0 r1_1 r1_2 r1_3 r1_4 v1_5 r1_6 r1_7 r1_8, zV10 r0_0 r2_0 r2_1 v2_2 o_5.2.2.2.2.1 o_5.2.2.2.2.2.1 o_5.2.2.2.2.2.2.1 o_5.2.2.2.2.2.2.2.1 o_5.2.2.2.2.2.2.2.2, zV4 r1_6 v3_0 v3_1 r3_2 r3_3 r3_4 r3_5 r3_6 r3_7 r3_8 r3_9, zVi r3_2 k4 14 f4, zVi r2_1 k5 1200 f5, zVi r2_0 k6 13 f6, zVi r1_1 k7 4 f7, zVi r3_4 k8 14 f8]) hP hK hD hS hA ⟨hx, hb, hml, hown, hts⟩ (zf_X9_findFormat l dC dI h1 o_5.2.2.2.2.2.2.2.1 v1_0 r1_1 r1_2 r1_3 r1_4 v1_5 r1_6 r1_7 r1_8 k7 f7 o_10 hqo_10 H.size) (cwV 1 hts gX5_readFixed_X9_findFormat rfl rfl rfl zhd_X9_findFormat ⟨Nat.le_of_ble_eq_true rfl, Nat.le_of_ble_eq_true rfl⟩) [1, 7] rfl (of_decide_eq_true rfl) [3] rfl rfl rfl rfl hl.1 rfl (Nat.le_of_ble_eq_true rfl) dX5_readFixed_37 ⟨Nat.le_of_ble_eq_true rfl, Nat.le_of_ble_eq_true rfl⟩ [none, some 0, none, none, none, none, none, some 1] (of_decide_eq_true rfl) (of_decide_eq_true rfl) rfl rfl rfl (fun H locs hP hD hS => ?_)
    obtain ⟨o_14, hqo_14, hfn⟩ := zb_s hfn
    refine zcVb (ci := 5) (rest := []) (pc' := 43) (ws' := [zV5 h0 r0_0 o_14.2.1 o_14.2.2.1 o_14.2.2.2.1, zV9 h1 v1_0 r1_1 r1_2 r1_3 r1_4 v1_5 r1_6 r1_7 r1_8, zV10 r0_0 r2_0 r2_1 v2_2 o_14.2.2.2.2.1 o_14.2.2.2.2.2.1 o_14.2.2.2.2.2.2.1 o_14.2.2.2.2.2.2.2.1 o_14.2.2.2.2.2.2.2.2, zV4 r1_6 v3_0 v3_1 r3_2 r3_3 r3_4 r3_5 r3_6 r3_7 r3_8 r3_9, zVi r3_2 k4 14 f4, zVi r2_1 k5 1200 f5, zVi r2_0 k6 13 f6, zVi r1_1 k7 4 f7, zVi r3_4 k8 14 f8]) hP hK hD hS hA ⟨hx, hb, hml, hown, hts⟩ (zf_X5_readKnown l dC dI h0 o_10 r0_0 o_5.2.1 o_5.2.2.1 o_5.2.2.2.1 r2_0 r2_1 v2_2 o_5.2.2.2.2.1 o_5.2.2.2.2.2.1 o_5.2.2.2.2.2.2.1 o_5.2.2.2.2.2.2.2.1 o_5.2.2.2.2.2.2.2.2 k5 f5 k6 f6 o_14 hqo_14 H.size) (cwV 1 hts gX5_readFixed_X5_readKnown rfl rfl rfl zhd_X5_readKnown ⟨Nat.le_of_ble_eq_true rfl, Nat.le_of_ble_eq_true rfl⟩) [0, 2, 5, 6] rfl (of_decide_eq_true rfl) [1, 2] rfl rfl rfl rfl hl.1 rfl (Nat.le_of_ble_eq_true rfl) dX5_readFixed_40 ⟨Nat.le_of_ble_eq_true rfl, Nat.le_of_ble_eq_true rfl⟩ [some 0, none, some 1, none, none, some 2, some 3] (of_decide_eq_true rfl) (of_decide_eq_true rfl) rfl rfl rfl (fun H locs hw_17n hP hD hS => ?_)
    refine lv_if_ne (tgt := 48) hx hb dX5_readFixed_43 (of_decide_eq_true rfl) (fun c_18 => ?_) (fun c_18 => ?_)
    · have hfn := (if_neg c_18).symm.trans hfn
      refine lv_aload_n hx hb dX5_readFixed_48 rfl (lv_at hl 2 rfl) ?_
      refine va_get (D := (dC, dI)) (ci := 9) (v := .ref r1_6) (C := RX9) (T := TX9) (N := 9) hx hb hts zn_X5_readFixed_X9 hown hK hP 1 rfl rfl 6 (of_decide_eq_true rfl) (hts (.fieldLink RX5 44 "ShortEnough$Task" "numbers" "LShortEnough$Numbers;") zw_X5_readFixed_512) (fun _ h9 => h9) rfl dX5_readFixed_49 ?_
      refine lv_iload_n hx hb dX5_readFixed_52 rfl (lv_at hl 0 rfl) ?_
      refine lv_aload_n hx hb dX5_readFixed_53 rfl (lv_at hl 1 rfl) ?_
      refine va_get (D := (dC, dI)) (ci := 5) (v := .int o_14.2.1) (C := RX5) (T := TX5) (N := 4) hx hb hts zn_X5_readFixed_X5 hown hK hP 0 rfl rfl 1 (of_decide_eq_true rfl) (hts (.fieldLink RX5 102 "ShortEnough$Parser" "got" "I") zw_X5_readFixed_517) (fun _ h9 => h9) rfl dX5_readFixed_54 ?_
      obtain ⟨o_19, hqo_19, hfn⟩ := zb_s hfn
      refine zcVv (ci := 4) (rest := []) (pc' := 60) (ws' := [zV5 h0 r0_0 o_14.2.1 o_14.2.2.1 o_14.2.2.2.1, zV9 h1 v1_0 r1_1 r1_2 r1_3 r1_4 v1_5 r1_6 r1_7 r1_8, zV10 r0_0 r2_0 r2_1 v2_2 o_14.2.2.2.2.1 o_14.2.2.2.2.2.1 o_14.2.2.2.2.2.2.1 o_14.2.2.2.2.2.2.2.1 o_14.2.2.2.2.2.2.2.2, zV4 r1_6 v3_0 v3_1 r3_2 r3_3 r3_4 r3_5 r3_6 r3_7 r3_8 r3_9, zVi r3_2 k4 14 f4, zVi r2_1 k5 1200 f5, zVi r2_0 k6 13 f6, zVi r1_1 k7 4 f7, zVi r3_4 k8 14 o_19]) hP hK hD hS hA ⟨hx, hb, hml, hown, hts⟩ (zf_X4_fix l dC dI r1_6 o_5.2.1 o_14.2.1 v3_0 v3_1 r3_2 r3_3 r3_4 r3_5 r3_6 r3_7 r3_8 r3_9 k8 f8 o_19 hqo_19 H.size) (cwV 2 hts gX5_readFixed_X4_fix rfl rfl rfl zhd_X4_fix ⟨Nat.le_of_ble_eq_true rfl, Nat.le_of_ble_eq_true rfl⟩) [3, 8] rfl (of_decide_eq_true rfl) [4] rfl rfl rfl rfl hl.1 rfl (Nat.le_of_ble_eq_true rfl) dX5_readFixed_57 ⟨Nat.le_of_ble_eq_true rfl, Nat.le_of_ble_eq_true rfl⟩ [none, none, none, some 0, none, none, none, none, some 1] (of_decide_eq_true rfl) (of_decide_eq_true rfl) rfl rfl rfl (fun H locs hP hD hS => ?_)
      refine lv_iconst (v := 1) hx hb dX5_readFixed_60 zci_1 ?_
      have ho := Option.some.inj hfn
      subst ho
      exact zrz hx hb hr rfl hK hP hD hS hQ ⟨rfl, zB1⟩ hlocks dX5_readFixed_61
    have hfn := (if_pos c_18).symm.trans hfn
    refine lv_iconst (v := 0) hx hb dX5_readFixed_46 zci_0 ?_
    have ho := Option.some.inj hfn
    subst ho
    exact zrz hx hb hr rfl hK hP hD hS hQ ⟨rfl, zB0⟩ hlocks dX5_readFixed_47
  have hfn := (if_pos c_9).symm.trans hfn
  refine lv_iconst (v := 0) hx hb dX5_readFixed_21 zci_0 ?_
  have ho := Option.some.inj hfn
  subst ho
  exact zrz hx hb hr rfl hK hP hD hS hQ ⟨rfl, zB0⟩ hlocks dX5_readFixed_22
theorem zn_X5_readGroup_X9 : ∀ w ∈ wsX90, w ∈ wsX5_readGroup := fun _ h => List.mem_cons_of_mem _ (List.mem_append_left _ (List.mem_append_left _ (List.mem_append_left _ (List.mem_append_right _ h))))
theorem zw_X5_readGroup_519 : Cond.fieldLink RX5 44 "ShortEnough$Task" "numbers" "LShortEnough$Numbers;" ∈ wsX5_readGroup := List.mem_of_getElem? (i := 1) (by decide +kernel)
theorem zn_X5_readGroup_X5 : ∀ w ∈ wsX50, w ∈ wsX5_readGroup := fun _ h => List.mem_cons_of_mem _ (List.mem_append_left _ (List.mem_append_left _ (List.mem_append_right _ h)))
theorem zw_X5_readGroup_521 : Cond.fieldLink RX5 12 "ShortEnough$Parser" "words" "LShortEnough$Words;" ∈ wsX5_readGroup := List.mem_of_getElem? (i := 2) (by decide +kernel)
theorem zn_X5_readGroup_X10 : ∀ w ∈ wsX100, w ∈ wsX5_readGroup := fun _ h => List.mem_cons_of_mem _ (List.mem_append_left _ (List.mem_append_right _ h))
theorem zw_X5_readGroup_523 : Cond.fieldLink RX5 138 "ShortEnough$Words" "value" "I" ∈ wsX5_readGroup := List.mem_of_getElem? (i := 3) (by decide +kernel)
theorem zw_X5_readGroup_524 : Cond.fieldLink RX5 102 "ShortEnough$Parser" "got" "I" ∈ wsX5_readGroup := List.mem_of_getElem? (i := 4) (by decide +kernel)
theorem zw_X5_readGroup_525 : Cond.fieldLink RX5 64 "ShortEnough$Words" "start" "I" ∈ wsX5_readGroup := List.mem_of_getElem? (i := 5) (by decide +kernel)
set_option maxHeartbeats 4000000 in
set_option maxRecDepth 100000 in
theorem zf_X5_readGroup (l : Launch) (dC : Nat → ClassId) (dI : Nat → Nat → Nat) (h0 : Nat) (h1 : Nat) (r0_0 : Nat) (v0_1 : Int32) (v0_2 : Int32) (v0_3 : Int32) (v1_0 : Int32) (r1_1 : Nat) (r1_2 : Nat) (r1_3 : Nat) (r1_4 : Nat) (v1_5 : Int32) (r1_6 : Nat) (r1_7 : Nat) (r1_8 : Nat) (r2_0 : Nat) (r2_1 : Nat) (v2_2 : Int32) (v2_3 : Int32) (v2_4 : Int32) (v2_5 : Int32) (v2_6 : Int32) (v2_7 : Int32) (v3_0 : Int32) (v3_1 : Int32) (r3_2 : Nat) (r3_3 : Nat) (r3_4 : Nat) (r3_5 : Nat) (r3_6 : Nat) (r3_7 : Nat) (r3_8 : Nat) (r3_9 : Nat) (k4 : Nat) (f4 : Nat → Int32) (k5 : Nat) (f5 : Nat → Int32) (k6 : Nat) (f6 : Nat → Int32) (k7 : Nat) (f7 : Nat → Int32) (o : Int32 × Int32 × Int32 × Int32 × Int32 × Int32 × Int32 × Int32 × Int32 × (Nat → Int32)) (hfn : fn_X5_readGroup v0_1 v0_2 v0_3 v2_2 v2_3 v2_4 v2_5 v2_6 v2_7 v3_0 f4 f5 f6 f7 = some o) (sz : Nat) : zMi l yX5_readGroup wsX5_readGroup ({ frames := 3, cells := 0, slots := 0, locals := 67 }) (dC, dI) vwCl [.ref h0, .ref h1] [zV5 h0 r0_0 v0_1 v0_2 v0_3, zV9 h1 v1_0 r1_1 r1_2 r1_3 r1_4 v1_5 r1_6 r1_7 r1_8, zV10 r0_0 r2_0 r2_1 v2_2 v2_3 v2_4 v2_5 v2_6 v2_7, zV4 r1_6 v3_0 v3_1 r3_2 r3_3 r3_4 r3_5 r3_6 r3_7 r3_8 r3_9, zVi r3_2 k4 14 f4, zVi r2_1 k5 1200 f5, zVi r2_0 k6 13 f6, zVi r3_7 k7 14 f7] [(k4, .int), (k5, .byte), (k6, .int), (k7, .int)] (fun r _ => r = o.1 ∧ narrow .boolean (.int o.1) = .int o.1) [zV5 h0 r0_0 o.2.1 o.2.2.1 o.2.2.2.1, zV9 h1 v1_0 r1_1 r1_2 r1_3 r1_4 v1_5 r1_6 r1_7 r1_8, zV10 r0_0 r2_0 r2_1 v2_2 o.2.2.2.2.1 o.2.2.2.2.2.1 o.2.2.2.2.2.2.1 o.2.2.2.2.2.2.2.1 o.2.2.2.2.2.2.2.2.1, zV4 r1_6 v3_0 v3_1 r3_2 r3_3 r3_4 r3_5 r3_6 r3_7 r3_8 r3_9, zVi r3_2 k4 14 f4, zVi r2_1 k5 1200 f5, zVi r2_0 k6 13 f6, zVi r3_7 k7 14 o.2.2.2.2.2.2.2.2.2] [(k4, .int), (k5, .byte), (k6, .int), (k7, .int)] sz := by
  refine zgoi (cc := cX5_readGroup) (maxL := 4) (ret := (some .boolean)) (C0 := RX5) (lv0 := [(0, .ref h0), (1, .ref h1)]) zpl_X5 rfl rfl rfl (Nat.le_of_ble_eq_true rfl) ?_
  intro p e s m below meth c A ls Q hx hb hr hts hown hlocks hml hP hK hD hA hS hl hQ
  unfold fn_X5_readGroup at hfn
  refine lv_aload_n hx hb dX5_readGroup_0 rfl (lv_at hl 0 rfl) ?_
  refine lv_aload_n hx hb dX5_readGroup_1 rfl (lv_at hl 1 rfl) ?_
  refine va_get (D := (dC, dI)) (ci := 9) (v := .ref r1_6) (C := RX9) (T := TX9) (N := 9) hx hb hts zn_X5_readGroup_X9 hown hK hP 1 rfl rfl 6 (of_decide_eq_true rfl) (hts (.fieldLink RX5 44 "ShortEnough$Task" "numbers" "LShortEnough$Numbers;") zw_X5_readGroup_519) (fun _ h9 => h9) rfl dX5_readGroup_2 ?_
  refine lv_aload_n hx hb dX5_readGroup_5 rfl (lv_at hl 0 rfl) ?_
  refine va_get (D := (dC, dI)) (ci := 5) (v := .ref r0_0) (C := RX5) (T := TX5) (N := 4) hx hb hts zn_X5_readGroup_X5 hown hK hP 0 rfl rfl 0 (of_decide_eq_true rfl) (hts (.fieldLink RX5 12 "ShortEnough$Parser" "words" "LShortEnough$Words;") zw_X5_readGroup_521) (fun _ h9 => h9) rfl dX5_readGroup_6 ?_
  refine va_get (D := (dC, dI)) (ci := 10) (v := .int v2_6) (C := RX10) (T := TX10) (N := 8) hx hb hts zn_X5_readGroup_X10 hown hK hP 2 rfl rfl 6 (of_decide_eq_true rfl) (hts (.fieldLink RX5 138 "ShortEnough$Words" "value" "I") zw_X5_readGroup_523) (fun _ h9 => h9) rfl dX5_readGroup_9 ?_
  obtain ⟨o_1, hqo_1, hfn⟩ := zb_s hfn
  refine zcVi (ci := 4) (rest := [.ref h0]) (pc' := 15) (ws' := [zV5 h0 r0_0 v0_1 v0_2 v0_3, zV9 h1 v1_0 r1_1 r1_2 r1_3 r1_4 v1_5 r1_6 r1_7 r1_8, zV10 r0_0 r2_0 r2_1 v2_2 v2_3 v2_4 v2_5 v2_6 v2_7, zV4 r1_6 v3_0 v3_1 r3_2 r3_3 r3_4 r3_5 r3_6 r3_7 r3_8 r3_9, zVi r3_2 k4 14 f4, zVi r2_1 k5 1200 f5, zVi r2_0 k6 13 f6, zVi r3_7 k7 14 f7]) hP hK hD hS hA ⟨hx, hb, hml, hown, hts⟩ (zf_X4_find l dC dI r1_6 v2_6 v3_0 v3_1 r3_2 r3_3 r3_4 r3_5 r3_6 r3_7 r3_8 r3_9 k4 f4 o_1 hqo_1 s.heap.size) (cwV 1 hts gX5_readGroup_X4_find rfl rfl rfl zhd_X4_find ⟨Nat.le_of_ble_eq_true rfl, Nat.le_of_ble_eq_true rfl⟩) [3, 4] rfl (of_decide_eq_true rfl) [0] rfl rfl rfl rfl hl.1 rfl (Nat.le_of_ble_eq_true rfl) dX5_readGroup_12 ⟨Nat.le_of_ble_eq_true rfl, Nat.le_of_ble_eq_true rfl⟩ [none, none, none, some 0, some 1] (of_decide_eq_true rfl) (of_decide_eq_true rfl) rfl rfl rfl (fun H locs hP hD hS => ?_)
  obtain ⟨o_5, hqo_5, hfn⟩ := zb_s hfn
  refine zcVb (ci := 5) (rest := []) (pc' := 18) (ws' := [zV5 h0 r0_0 o_5.2.1 o_5.2.2.1 o_5.2.2.2.1, zV9 h1 v1_0 r1_1 r1_2 r1_3 r1_4 v1_5 r1_6 r1_7 r1_8, zV10 r0_0 r2_0 r2_1 v2_2 o_5.2.2.2.2.1 o_5.2.2.2.2.2.1 o_5.2.2.2.2.2.2.1 o_5.2.2.2.2.2.2.2.1 o_5.2.2.2.2.2.2.2.2, zV4 r1_6 v3_0 v3_1 r3_2 r3_3 r3_4 r3_5 r3_6 r3_7 r3_8 r3_9, zVi r3_2 k4 14 f4, zVi r2_1 k5 1200 f5, zVi r2_0 k6 13 f6, zVi r3_7 k7 14 f7]) hP hK hD hS hA ⟨hx, hb, hml, hown, hts⟩ (zf_X5_readKnown l dC dI h0 o_1 r0_0 v0_1 v0_2 v0_3 r2_0 r2_1 v2_2 v2_3 v2_4 v2_5 v2_6 v2_7 k5 f5 k6 f6 o_5 hqo_5 H.size) (cwV 1 hts gX5_readGroup_X5_readKnown rfl rfl rfl zhd_X5_readKnown ⟨Nat.le_of_ble_eq_true rfl, Nat.le_of_ble_eq_true rfl⟩) [0, 2, 5, 6] rfl (of_decide_eq_true rfl) [1, 2] rfl rfl rfl rfl hl.1 rfl (Nat.le_of_ble_eq_true rfl) dX5_readGroup_15 ⟨Nat.le_of_ble_eq_true rfl, Nat.le_of_ble_eq_true rfl⟩ [some 0, none, some 1, none, none, some 2, some 3] (of_decide_eq_true rfl) (of_decide_eq_true rfl) rfl rfl rfl (fun H locs hw_8n hP hD hS => ?_)
  refine lv_if_ne (tgt := 23) hx hb dX5_readGroup_18 (of_decide_eq_true rfl) (fun c_9 => ?_) (fun c_9 => ?_)
  · have hfn := (if_neg c_9).symm.trans hfn
    refine lv_aload_n hx hb dX5_readGroup_23 rfl (lv_at hl 0 rfl) ?_
    refine va_get (D := (dC, dI)) (ci := 5) (v := .int o_5.2.1) (C := RX5) (T := TX5) (N := 4) hx hb hts zn_X5_readGroup_X5 hown hK hP 0 rfl rfl 1 (of_decide_eq_true rfl) (hts (.fieldLink RX5 102 "ShortEnough$Parser" "got" "I") zw_X5_readGroup_524) (fun _ h9 => h9) rfl dX5_readGroup_24 ?_
    refine lv_istore_n (lv' := [(2, .int o_5.2.1), (0, .ref h0), (1, .ref h1)]) hx hb dX5_readGroup_27 rfl hl (of_decide_eq_true rfl) rfl (fun ls hl => ?_)
    refine lv_aload_n hx hb dX5_readGroup_28 rfl (lv_at hl 1 rfl) ?_
    refine va_get (D := (dC, dI)) (ci := 5) (v := .ref r0_0) (C := RX5) (T := TX5) (N := 4) hx hb hts zn_X5_readGroup_X5 hown hK hP 0 rfl rfl 0 (of_decide_eq_true rfl) (hts (.fieldLink RX5 12 "ShortEnough$Parser" "words" "LShortEnough$Words;") zw_X5_readGroup_521) (fun _ h9 => h9) rfl dX5_readGroup_29 ?_
    refine va_get (D := (dC, dI)) (ci := 10) (v := .int o_5.2.2.2.2.2.2.1) (C := RX10) (T := TX10) (N := 8) hx hb hts zn_X5_readGroup_X10 hown hK hP 2 rfl rfl 5 (of_decide_eq_true rfl) (hts (.fieldLink RX5 64 "ShortEnough$Words" "start" "I") zw_X5_readGroup_525) (fun _ h9 => h9) rfl dX5_readGroup_32 ?_
    refine lv_istore_n (lv' := [(3, .int o_5.2.2.2.2.2.2.1), (2, .int o_5.2.1), (0, .ref h0), (1, .ref h1)]) hx hb dX5_readGroup_35 rfl hl (of_decide_eq_true rfl) rfl (fun ls hl => ?_)
    refine lv_aload_n hx hb dX5_readGroup_36 rfl (lv_at hl 2 rfl) ?_
    refine lv_aload_n hx hb dX5_readGroup_37 rfl (lv_at hl 3 rfl) ?_
    refine va_get (D := (dC, dI)) (ci := 9) (v := .ref r1_6) (C := RX9) (T := TX9) (N := 9) hx hb hts zn_X5_readGroup_X9 hown hK hP 1 rfl rfl 6 (of_decide_eq_true rfl) (hts (.fieldLink RX5 44 "ShortEnough$Task" "numbers" "LShortEnough$Numbers;") zw_X5_readGroup_519) (fun _ h9 => h9) rfl dX5_readGroup_38 ?_
    refine lv_aload_n hx hb dX5_readGroup_41 rfl (lv_at hl 2 rfl) ?_
    refine va_get (D := (dC, dI)) (ci := 5) (v := .ref r0_0) (C := RX5) (T := TX5) (N := 4) hx hb hts zn_X5_readGroup_X5 hown hK hP 0 rfl rfl 0 (of_decide_eq_true rfl) (hts (.fieldLink RX5 12 "ShortEnough$Parser" "words" "LShortEnough$Words;") zw_X5_readGroup_521) (fun _ h9 => h9) rfl dX5_readGroup_42 ?_
    refine va_get (D := (dC, dI)) (ci := 10) (v := .int o_5.2.2.2.2.2.2.2.1) (C := RX10) (T := TX10) (N := 8) hx hb hts zn_X5_readGroup_X10 hown hK hP 2 rfl rfl 6 (of_decide_eq_true rfl) (hts (.fieldLink RX5 138 "ShortEnough$Words" "value" "I") zw_X5_readGroup_523) (fun _ h9 => h9) rfl dX5_readGroup_45 ?_
    obtain ⟨o_10, hqo_10, hfn⟩ := zb_s hfn
    refine zcVi (ci := 4) (rest := [.ref h0]) (pc' := 51) (ws' := [zV5 h0 r0_0 o_5.2.1 o_5.2.2.1 o_5.2.2.2.1, zV9 h1 v1_0 r1_1 r1_2 r1_3 r1_4 v1_5 r1_6 r1_7 r1_8, zV10 r0_0 r2_0 r2_1 v2_2 o_5.2.2.2.2.1 o_5.2.2.2.2.2.1 o_5.2.2.2.2.2.2.1 o_5.2.2.2.2.2.2.2.1 o_5.2.2.2.2.2.2.2.2, zV4 r1_6 v3_0 v3_1 r3_2 r3_3 r3_4 r3_5 r3_6 r3_7 r3_8 r3_9, zVi r3_2 k4 14 f4, zVi r2_1 k5 1200 f5, zVi r2_0 k6 13 f6, zVi r3_7 k7 14 f7]) hP hK hD hS hA ⟨hx, hb, hml, hown, hts⟩ (zf_X4_find l dC dI r1_6 o_5.2.2.2.2.2.2.2.1 v3_0 v3_1 r3_2 r3_3 r3_4 r3_5 r3_6 r3_7 r3_8 r3_9 k4 f4 o_10 hqo_10 H.size) (cwV 1 hts gX5_readGroup_X4_find rfl rfl rfl zhd_X4_find ⟨Nat.le_of_ble_eq_true rfl, Nat.le_of_ble_eq_true rfl⟩) [3, 4] rfl (of_decide_eq_true rfl) [0] rfl rfl rfl rfl hl.1 rfl (Nat.le_of_ble_eq_true rfl) dX5_readGroup_48 ⟨Nat.le_of_ble_eq_true rfl, Nat.le_of_ble_eq_true rfl⟩ [none, none, none, some 0, some 1] (of_decide_eq_true rfl) (of_decide_eq_true rfl) rfl rfl rfl (fun H locs hP hD hS => ?_)
    obtain ⟨o_14, hqo_14, hfn⟩ := zb_s hfn
    refine zcVb (ci := 5) (rest := []) (pc' := 54) (ws' := [zV5 h0 r0_0 o_14.2.1 o_14.2.2.1 o_14.2.2.2.1, zV9 h1 v1_0 r1_1 r1_2 r1_3 r1_4 v1_5 r1_6 r1_7 r1_8, zV10 r0_0 r2_0 r2_1 v2_2 o_14.2.2.2.2.1 o_14.2.2.2.2.2.1 o_14.2.2.2.2.2.2.1 o_14.2.2.2.2.2.2.2.1 o_14.2.2.2.2.2.2.2.2, zV4 r1_6 v3_0 v3_1 r3_2 r3_3 r3_4 r3_5 r3_6 r3_7 r3_8 r3_9, zVi r3_2 k4 14 f4, zVi r2_1 k5 1200 f5, zVi r2_0 k6 13 f6, zVi r3_7 k7 14 f7]) hP hK hD hS hA ⟨hx, hb, hml, hown, hts⟩ (zf_X5_readKnown l dC dI h0 o_10 r0_0 o_5.2.1 o_5.2.2.1 o_5.2.2.2.1 r2_0 r2_1 v2_2 o_5.2.2.2.2.1 o_5.2.2.2.2.2.1 o_5.2.2.2.2.2.2.1 o_5.2.2.2.2.2.2.2.1 o_5.2.2.2.2.2.2.2.2 k5 f5 k6 f6 o_14 hqo_14 H.size) (cwV 1 hts gX5_readGroup_X5_readKnown rfl rfl rfl zhd_X5_readKnown ⟨Nat.le_of_ble_eq_true rfl, Nat.le_of_ble_eq_true rfl⟩) [0, 2, 5, 6] rfl (of_decide_eq_true rfl) [1, 2] rfl rfl rfl rfl hl.1 rfl (Nat.le_of_ble_eq_true rfl) dX5_readGroup_51 ⟨Nat.le_of_ble_eq_true rfl, Nat.le_of_ble_eq_true rfl⟩ [some 0, none, some 1, none, none, some 2, some 3] (of_decide_eq_true rfl) (of_decide_eq_true rfl) rfl rfl rfl (fun H locs hw_17n hP hD hS => ?_)
    refine lv_if_ne (tgt := 59) hx hb dX5_readGroup_54 (of_decide_eq_true rfl) (fun c_18 => ?_) (fun c_18 => ?_)
    · have hfn := (if_neg c_18).symm.trans hfn
      refine lv_aload_n hx hb dX5_readGroup_59 rfl (lv_at hl 2 rfl) ?_
      refine va_get (D := (dC, dI)) (ci := 5) (v := .int o_14.2.1) (C := RX5) (T := TX5) (N := 4) hx hb hts zn_X5_readGroup_X5 hown hK hP 0 rfl rfl 1 (of_decide_eq_true rfl) (hts (.fieldLink RX5 102 "ShortEnough$Parser" "got" "I") zw_X5_readGroup_524) (fun _ h9 => h9) rfl dX5_readGroup_60 ?_
      refine lv_iload_n hx hb dX5_readGroup_63 rfl (lv_at hl 1 rfl) ?_
      refine lv_icmp_ne (tgt := 74) hx hb dX5_readGroup_64 (of_decide_eq_true rfl) (fun c_19 => ?_) (fun c_19 => ?_)
      · have hfn := (if_neg c_19).symm.trans hfn
        refine lv_aload_n hx hb dX5_readGroup_74 rfl (lv_at hl 3 rfl) ?_
        refine va_get (D := (dC, dI)) (ci := 9) (v := .ref r1_6) (C := RX9) (T := TX9) (N := 9) hx hb hts zn_X5_readGroup_X9 hown hK hP 1 rfl rfl 6 (of_decide_eq_true rfl) (hts (.fieldLink RX5 44 "ShortEnough$Task" "numbers" "LShortEnough$Numbers;") zw_X5_readGroup_519) (fun _ h9 => h9) rfl dX5_readGroup_75 ?_
        refine lv_iload_n hx hb dX5_readGroup_78 rfl (lv_at hl 1 rfl) ?_
        refine lv_aload_n hx hb dX5_readGroup_79 rfl (lv_at hl 2 rfl) ?_
        refine va_get (D := (dC, dI)) (ci := 5) (v := .int o_14.2.1) (C := RX5) (T := TX5) (N := 4) hx hb hts zn_X5_readGroup_X5 hown hK hP 0 rfl rfl 1 (of_decide_eq_true rfl) (hts (.fieldLink RX5 102 "ShortEnough$Parser" "got" "I") zw_X5_readGroup_524) (fun _ h9 => h9) rfl dX5_readGroup_80 ?_
        obtain ⟨o_20, hqo_20, hfn⟩ := zb_s hfn
        refine zcVv (ci := 4) (rest := []) (pc' := 86) (ws' := [zV5 h0 r0_0 o_14.2.1 o_14.2.2.1 o_14.2.2.2.1, zV9 h1 v1_0 r1_1 r1_2 r1_3 r1_4 v1_5 r1_6 r1_7 r1_8, zV10 r0_0 r2_0 r2_1 v2_2 o_14.2.2.2.2.1 o_14.2.2.2.2.2.1 o_14.2.2.2.2.2.2.1 o_14.2.2.2.2.2.2.2.1 o_14.2.2.2.2.2.2.2.2, zV4 r1_6 v3_0 v3_1 r3_2 r3_3 r3_4 r3_5 r3_6 r3_7 r3_8 r3_9, zVi r3_2 k4 14 f4, zVi r2_1 k5 1200 f5, zVi r2_0 k6 13 f6, zVi r3_7 k7 14 o_20]) hP hK hD hS hA ⟨hx, hb, hml, hown, hts⟩ (zf_X4_join l dC dI r1_6 o_5.2.1 o_14.2.1 v3_0 v3_1 r3_2 r3_3 r3_4 r3_5 r3_6 r3_7 r3_8 r3_9 k7 f7 o_20 hqo_20 H.size) (cwV 2 hts gX5_readGroup_X4_join rfl rfl rfl zhd_X4_join ⟨Nat.le_of_ble_eq_true rfl, Nat.le_of_ble_eq_true rfl⟩) [3, 7] rfl (of_decide_eq_true rfl) [3] rfl rfl rfl rfl hl.1 rfl (Nat.le_of_ble_eq_true rfl) dX5_readGroup_83 ⟨Nat.le_of_ble_eq_true rfl, Nat.le_of_ble_eq_true rfl⟩ [none, none, none, some 0, none, none, none, some 1] (of_decide_eq_true rfl) (of_decide_eq_true rfl) rfl rfl rfl (fun H locs hP hD hS => ?_)
        refine lv_iconst (v := 1) hx hb dX5_readGroup_86 zci_1 ?_
        have ho := Option.some.inj hfn
        subst ho
        exact zrz hx hb hr rfl hK hP hD hS hQ ⟨rfl, zB1⟩ hlocks dX5_readGroup_87
      have hfn := (if_pos c_19).symm.trans hfn
      refine lv_aload_n hx hb dX5_readGroup_67 rfl (lv_at hl 2 rfl) ?_
      refine lv_iconst (v := 3) hx hb dX5_readGroup_68 zci_3 ?_
      refine lv_iload_n hx hb dX5_readGroup_69 rfl (lv_at hl 0 rfl) ?_
      obtain ⟨o_24, hqo_24, hfn⟩ := zb_s hfn
      refine zcVb (ci := 5) (rest := []) (pc' := 73) (ws' := [zV5 h0 r0_0 o_14.2.1 o_24.2.1 o_24.2.2, zV9 h1 v1_0 r1_1 r1_2 r1_3 r1_4 v1_5 r1_6 r1_7 r1_8, zV10 r0_0 r2_0 r2_1 v2_2 o_14.2.2.2.2.1 o_14.2.2.2.2.2.1 o_14.2.2.2.2.2.2.1 o_14.2.2.2.2.2.2.2.1 o_14.2.2.2.2.2.2.2.2, zV4 r1_6 v3_0 v3_1 r3_2 r3_3 r3_4 r3_5 r3_6 r3_7 r3_8 r3_9, zVi r3_2 k4 14 f4, zVi r2_1 k5 1200 f5, zVi r2_0 k6 13 f6, zVi r3_7 k7 14 f7]) hP hK hD hS hA ⟨hx, hb, hml, hown, hts⟩ (zf_X5_stopAt l dC dI h0 3 o_5.2.2.2.2.2.2.1 r0_0 o_14.2.1 o_14.2.2.1 o_14.2.2.2.1 o_24 hqo_24 H.size) (cwV 2 hts gX5_readGroup_X5_stopAt rfl rfl rfl zhd_X5_stopAt ⟨Nat.le_of_ble_eq_true rfl, Nat.le_of_ble_eq_true rfl⟩) [0] rfl (of_decide_eq_true rfl) [] rfl rfl rfl rfl hl.1 rfl (Nat.le_of_ble_eq_true rfl) dX5_readGroup_70 ⟨Nat.le_of_ble_eq_true rfl, Nat.le_of_ble_eq_true rfl⟩ [some 0] (of_decide_eq_true rfl) (of_decide_eq_true rfl) rfl rfl rfl (fun H locs hw_27n hP hD hS => ?_)
      have ho := Option.some.inj hfn
      subst ho
      exact zrz hx hb hr hw_27n hK hP hD hS hQ ⟨rfl, hw_27n⟩ hlocks dX5_readGroup_73
    have hfn := (if_pos c_18).symm.trans hfn
    refine lv_iconst (v := 0) hx hb dX5_readGroup_57 zci_0 ?_
    have ho := Option.some.inj hfn
    subst ho
    exact zrz hx hb hr rfl hK hP hD hS hQ ⟨rfl, zB0⟩ hlocks dX5_readGroup_58
  have hfn := (if_pos c_9).symm.trans hfn
  refine lv_iconst (v := 0) hx hb dX5_readGroup_21 zci_0 ?_
  have ho := Option.some.inj hfn
  subst ho
  exact zrz hx hb hr rfl hK hP hD hS hQ ⟨rfl, zB0⟩ hlocks dX5_readGroup_22
theorem zn_X5_readStatement_X5 : ∀ w ∈ wsX50, w ∈ wsX5_readStatement := fun _ h => List.mem_cons_of_mem _ (List.mem_append_left _ (List.mem_append_left _ (List.mem_append_left _ (List.mem_append_right _ h))))
theorem zw_X5_readStatement_412 : Cond.fieldLink RX5 12 "ShortEnough$Parser" "words" "LShortEnough$Words;" ∈ wsX5_readStatement := List.mem_of_getElem? (i := 1) (by decide +kernel)
theorem zn_X5_readStatement_X10 : ∀ w ∈ wsX100, w ∈ wsX5_readStatement := fun _ h => List.mem_cons_of_mem _ (List.mem_append_left _ (List.mem_append_left _ (List.mem_append_right _ h)))
theorem zw_X5_readStatement_414 : Cond.fieldLink RX5 57 "ShortEnough$Words" "own" "I" ∈ wsX5_readStatement := List.mem_of_getElem? (i := 2) (by decide +kernel)
theorem zw_X5_readStatement_415 : Cond.fieldLink RX5 64 "ShortEnough$Words" "start" "I" ∈ wsX5_readStatement := List.mem_of_getElem? (i := 3) (by decide +kernel)
set_option maxHeartbeats 4000000 in
set_option maxRecDepth 100000 in
theorem zf_X5_readStatement (l : Launch) (dC : Nat → ClassId) (dI : Nat → Nat → Nat) (h0 : Nat) (h1 : Nat) (p2 : Int32) (r0_0 : Nat) (v0_1 : Int32) (v0_2 : Int32) (v0_3 : Int32) (r1_0 : Nat) (r1_1 : Nat) (v1_2 : Int32) (v1_3 : Int32) (v1_4 : Int32) (v1_5 : Int32) (v1_6 : Int32) (v1_7 : Int32) (v2_0 : Int32) (r2_1 : Nat) (r2_2 : Nat) (r2_3 : Nat) (r2_4 : Nat) (v2_5 : Int32) (r2_6 : Nat) (r2_7 : Nat) (r2_8 : Nat) (v3_0 : Int32) (v3_1 : Int32) (r3_2 : Nat) (r3_3 : Nat) (r3_4 : Nat) (r3_5 : Nat) (r3_6 : Nat) (r3_7 : Nat) (r3_8 : Nat) (r3_9 : Nat) (k4 : Nat) (f4 : Nat → Int32) (k5 : Nat) (f5 : Nat → Int32) (k6 : Nat) (f6 : Nat → Int32) (k7 : Nat) (f7 : Nat → Int32) (k8 : Nat) (f8 : Nat → Int32) (k9 : Nat) (f9 : Nat → Int32) (k10 : Nat) (f10 : Nat → Int32) (k11 : Nat) (f11 : Nat → Int32) (k12 : Nat) (f12 : Nat → Int32) (k13 : Nat) (f13 : Nat → Int32) (k14 : Nat) (f14 : Nat → Int32) (k15 : Nat) (f15 : Nat → Int32) (k16 : Nat) (f16 : Nat → Int32) (k17 : Nat) (f17 : Nat → Int32) (o : Int32 × Int32 × Int32 × Int32 × Int32 × Int32 × Int32 × Int32 × Int32 × Int32 × Int32 × Int32 × Int32 × (Nat → Int32) × (Nat → Int32) × (Nat → Int32) × (Nat → Int32) × (Nat → Int32) × (Nat → Int32) × (Nat → Int32) × (Nat → Int32) × (Nat → Int32) × (Nat → Int32) × (Nat → Int32) × (Nat → Int32)) (hfn : fn_X5_readStatement p2 v0_1 v0_2 v0_3 v1_2 v1_3 v1_4 v1_5 v1_6 v1_7 v2_0 v2_5 v3_0 v3_1 f4 f5 f6 f7 f8 f9 f10 f11 f12 f13 f14 f15 f16 f17 = some o) (sz : Nat) : zMi l yX5_readStatement wsX5_readStatement ({ frames := 5, cells := 0, slots := 0, locals := 118 }) (dC, dI) vwCl [.ref h0, .ref h1, .int p2] [zV5 h0 r0_0 v0_1 v0_2 v0_3, zV10 r0_0 r1_0 r1_1 v1_2 v1_3 v1_4 v1_5 v1_6 v1_7, zV9 h1 v2_0 r2_1 r2_2 r2_3 r2_4 v2_5 r2_6 r2_7 r2_8, zV4 r2_6 v3_0 v3_1 r3_2 r3_3 r3_4 r3_5 r3_6 r3_7 r3_8 r3_9, zVi r1_1 k4 1200 f4, zVi r1_0 k5 13 f5, zVi r2_1 k6 4 f6, zVi r3_2 k7 14 f7, zVi r2_2 k8 4 f8, zVi r2_3 k9 4 f9, zVi r2_4 k10 4 f10, zVi r3_5 k11 14 f11, zVi r3_8 k12 28 f12, zVi r3_9 k13 28 f13, zVi r3_3 k14 14 f14, zVi r3_4 k15 14 f15, zVi r3_7 k16 14 f16, zVi r3_6 k17 14 f17] [(k4, .byte), (k5, .int), (k6, .int), (k7, .int), (k8, .int), (k9, .int), (k10, .int), (k11, .int), (k12, .int), (k13, .int), (k14, .int), (k15, .int), (k16, .int), (k17, .int)] (fun r _ => r = o.1 ∧ narrow .boolean (.int o.1) = .int o.1) [zV5 h0 r0_0 o.2.1 o.2.2.1 o.2.2.2.1, zV10 r0_0 r1_0 r1_1 v1_2 o.2.2.2.2.1 o.2.2.2.2.2.1 o.2.2.2.2.2.2.1 o.2.2.2.2.2.2.2.1 o.2.2.2.2.2.2.2.2.1, zV9 h1 o.2.2.2.2.2.2.2.2.2.1 r2_1 r2_2 r2_3 r2_4 o.2.2.2.2.2.2.2.2.2.2.1 r2_6 r2_7 r2_8, zV4 r2_6 o.2.2.2.2.2.2.2.2.2.2.2.1 o.2.2.2.2.2.2.2.2.2.2.2.2.1 r3_2 r3_3 r3_4 r3_5 r3_6 r3_7 r3_8 r3_9, zVi r1_1 k4 1200 f4, zVi r1_0 k5 13 f5, zVi r2_1 k6 4 o.2.2.2.2.2.2.2.2.2.2.2.2.2.1, zVi r3_2 k7 14 o.2.2.2.2.2.2.2.2.2.2.2.2.2.2.1, zVi r2_2 k8 4 o.2.2.2.2.2.2.2.2.2.2.2.2.2.2.2.1, zVi r2_3 k9 4 o.2.2.2.2.2.2.2.2.2.2.2.2.2.2.2.2.1, zVi r2_4 k10 4 o.2.2.2.2.2.2.2.2.2.2.2.2.2.2.2.2.2.1, zVi r3_5 k11 14 o.2.2.2.2.2.2.2.2.2.2.2.2.2.2.2.2.2.2.1, zVi r3_8 k12 28 o.2.2.2.2.2.2.2.2.2.2.2.2.2.2.2.2.2.2.2.1, zVi r3_9 k13 28 o.2.2.2.2.2.2.2.2.2.2.2.2.2.2.2.2.2.2.2.2.1, zVi r3_3 k14 14 o.2.2.2.2.2.2.2.2.2.2.2.2.2.2.2.2.2.2.2.2.2.1, zVi r3_4 k15 14 o.2.2.2.2.2.2.2.2.2.2.2.2.2.2.2.2.2.2.2.2.2.2.1, zVi r3_7 k16 14 o.2.2.2.2.2.2.2.2.2.2.2.2.2.2.2.2.2.2.2.2.2.2.2.1, zVi r3_6 k17 14 o.2.2.2.2.2.2.2.2.2.2.2.2.2.2.2.2.2.2.2.2.2.2.2.2] [(k4, .byte), (k5, .int), (k6, .int), (k7, .int), (k8, .int), (k9, .int), (k10, .int), (k11, .int), (k12, .int), (k13, .int), (k14, .int), (k15, .int), (k16, .int), (k17, .int)] sz := by
  refine zgoi (cc := cX5_readStatement) (maxL := 5) (ret := (some .boolean)) (C0 := RX5) (lv0 := [(0, .ref h0), (1, .ref h1), (2, .int p2)]) zpl_X5 rfl rfl rfl (Nat.le_of_ble_eq_true rfl) ?_
  intro p e s m below meth c A ls Q hx hb hr hts hown hlocks hml hP hK hD hA hS hl hQ
  unfold fn_X5_readStatement at hfn
  refine lv_aload_n hx hb dX5_readStatement_0 rfl (lv_at hl 0 rfl) ?_
  refine va_get (D := (dC, dI)) (ci := 5) (v := .ref r0_0) (C := RX5) (T := TX5) (N := 4) hx hb hts zn_X5_readStatement_X5 hown hK hP 0 rfl rfl 0 (of_decide_eq_true rfl) (hts (.fieldLink RX5 12 "ShortEnough$Parser" "words" "LShortEnough$Words;") zw_X5_readStatement_412) (fun _ h9 => h9) rfl dX5_readStatement_1 ?_
  refine va_get (D := (dC, dI)) (ci := 10) (v := .int v1_7) (C := RX10) (T := TX10) (N := 8) hx hb hts zn_X5_readStatement_X10 hown hK hP 1 rfl rfl 7 (of_decide_eq_true rfl) (hts (.fieldLink RX5 57 "ShortEnough$Words" "own" "I") zw_X5_readStatement_414) (fun _ h9 => h9) rfl dX5_readStatement_4 ?_
  refine lv_istore_n (lv' := [(3, .int v1_7), (0, .ref h0), (1, .ref h1), (2, .int p2)]) hx hb dX5_readStatement_7 rfl hl (of_decide_eq_true rfl) rfl (fun ls hl => ?_)
  refine lv_iload_n hx hb dX5_readStatement_8 rfl (lv_at hl 0 rfl) ?_
  obtain ⟨o_1, hqo_1, hfn⟩ := zb_s hfn
  refine zcSb (rest := []) (pc' := 12) (ws' := [zV5 h0 r0_0 v0_1 v0_2 v0_3, zV10 r0_0 r1_0 r1_1 v1_2 v1_3 v1_4 v1_5 v1_6 v1_7, zV9 h1 v2_0 r2_1 r2_2 r2_3 r2_4 v2_5 r2_6 r2_7 r2_8, zV4 r2_6 v3_0 v3_1 r3_2 r3_3 r3_4 r3_5 r3_6 r3_7 r3_8 r3_9, zVi r1_1 k4 1200 f4, zVi r1_0 k5 13 f5, zVi r2_1 k6 4 f6, zVi r3_2 k7 14 f7, zVi r2_2 k8 4 f8, zVi r2_3 k9 4 f9, zVi r2_4 k10 4 f10, zVi r3_5 k11 14 f11, zVi r3_8 k12 28 f12, zVi r3_9 k13 28 f13, zVi r3_3 k14 14 f14, zVi r3_4 k15 14 f15, zVi r3_7 k16 14 f16, zVi r3_6 k17 14 f17]) hP hK hD hS hA ⟨hx, hb, hml, hown, hts⟩ (zf_X5_startsStatement l dC dI v1_7 o_1 hqo_1 s.heap.size) (va_cwS 1 hts gX5_readStatement_X5_startsStatement rfl rfl rfl zhd_X5_startsStatement.2 ⟨Nat.le_of_ble_eq_true rfl, Nat.le_of_ble_eq_true rfl⟩) [] rfl (of_decide_eq_true rfl) [] rfl rfl hl.1 rfl (Nat.le_of_ble_eq_true rfl) dX5_readStatement_9 ⟨Nat.le_of_ble_eq_true rfl, Nat.le_of_ble_eq_true rfl⟩ [] (of_decide_eq_true rfl) (of_decide_eq_true rfl) rfl rfl rfl (fun H locs hw_4n hP hD hS => ?_)
  refine lv_if_ne (tgt := 28) hx hb dX5_readStatement_12 (of_decide_eq_true rfl) (fun c_5 => ?_) (fun c_5 => ?_)
  · have hfn := (if_neg c_5).symm.trans hfn
    refine lv_iload_n hx hb dX5_readStatement_28 rfl (lv_at hl 3 rfl) ?_
    refine lv_bipush (v := 40) hx hb dX5_readStatement_29 zcb_40 ?_
    refine lv_icmp_ge (tgt := 42) hx hb dX5_readStatement_31 (of_decide_eq_true rfl) (fun c_6 => ?_) (fun c_6 => ?_)
    · have hfn := (if_pos c_6).symm.trans hfn
      refine lv_aload_n hx hb dX5_readStatement_42 rfl (lv_at hl 1 rfl) ?_
      refine lv_iconst (v := 4) hx hb dX5_readStatement_43 zci_4 ?_
      refine lv_aload_n hx hb dX5_readStatement_44 rfl (lv_at hl 1 rfl) ?_
      refine va_get (D := (dC, dI)) (ci := 5) (v := .ref r0_0) (C := RX5) (T := TX5) (N := 4) hx hb hts zn_X5_readStatement_X5 hown hK hP 0 rfl rfl 0 (of_decide_eq_true rfl) (hts (.fieldLink RX5 12 "ShortEnough$Parser" "words" "LShortEnough$Words;") zw_X5_readStatement_412) (fun _ h9 => h9) rfl dX5_readStatement_45 ?_
      refine va_get (D := (dC, dI)) (ci := 10) (v := .int v1_5) (C := RX10) (T := TX10) (N := 8) hx hb hts zn_X5_readStatement_X10 hown hK hP 1 rfl rfl 5 (of_decide_eq_true rfl) (hts (.fieldLink RX5 64 "ShortEnough$Words" "start" "I") zw_X5_readStatement_415) (fun _ h9 => h9) rfl dX5_readStatement_48 ?_
      obtain ⟨o_7, hqo_7, hfn⟩ := zb_s hfn
      refine zcVb (ci := 5) (rest := []) (pc' := 54) (ws' := [zV5 h0 r0_0 v0_1 o_7.2.1 o_7.2.2, zV10 r0_0 r1_0 r1_1 v1_2 v1_3 v1_4 v1_5 v1_6 v1_7, zV9 h1 v2_0 r2_1 r2_2 r2_3 r2_4 v2_5 r2_6 r2_7 r2_8, zV4 r2_6 v3_0 v3_1 r3_2 r3_3 r3_4 r3_5 r3_6 r3_7 r3_8 r3_9, zVi r1_1 k4 1200 f4, zVi r1_0 k5 13 f5, zVi r2_1 k6 4 f6, zVi r3_2 k7 14 f7, zVi r2_2 k8 4 f8, zVi r2_3 k9 4 f9, zVi r2_4 k10 4 f10, zVi r3_5 k11 14 f11, zVi r3_8 k12 28 f12, zVi r3_9 k13 28 f13, zVi r3_3 k14 14 f14, zVi r3_4 k15 14 f15, zVi r3_7 k16 14 f16, zVi r3_6 k17 14 f17]) hP hK hD hS hA ⟨hx, hb, hml, hown, hts⟩ (zf_X5_stopAt l dC dI h0 4 v1_5 r0_0 v0_1 v0_2 v0_3 o_7 hqo_7 H.size) (cwV 2 hts gX5_readStatement_X5_stopAt rfl rfl rfl zhd_X5_stopAt ⟨Nat.le_of_ble_eq_true rfl, Nat.le_of_ble_eq_true rfl⟩) [0] rfl (of_decide_eq_true rfl) [] rfl rfl rfl rfl hl.1 rfl (Nat.le_of_ble_eq_true rfl) dX5_readStatement_51 ⟨Nat.le_of_ble_eq_true rfl, Nat.le_of_ble_eq_true rfl⟩ [some 0] (of_decide_eq_true rfl) (of_decide_eq_true rfl) rfl rfl rfl (fun H locs hw_10n hP hD hS => ?_)
      have ho := Option.some.inj hfn
      subst ho
      exact zrz hx hb hr hw_10n hK hP hD hS hQ ⟨rfl, hw_10n⟩ hlocks dX5_readStatement_54
    have hfn := (if_neg c_6).symm.trans hfn
    refine lv_aload_n hx hb dX5_readStatement_34 rfl (lv_at hl 2 rfl) ?_
    refine lv_iload_n hx hb dX5_readStatement_35 rfl (lv_at hl 0 rfl) ?_
    obtain ⟨o_11, hqo_11, hfn⟩ := zb_s hfn
    refine zcSb (rest := []) (pc' := 39) (ws' := [zV5 h0 r0_0 v0_1 v0_2 v0_3, zV10 r0_0 r1_0 r1_1 v1_2 v1_3 v1_4 v1_5 v1_6 v1_7, zV9 h1 v2_0 r2_1 r2_2 r2_3 r2_4 v2_5 r2_6 r2_7 r2_8, zV4 r2_6 v3_0 v3_1 r3_2 r3_3 r3_4 r3_5 r3_6 r3_7 r3_8 r3_9, zVi r1_1 k4 1200 f4, zVi r1_0 k5 13 f5, zVi r2_1 k6 4 f6, zVi r3_2 k7 14 f7, zVi r2_2 k8 4 f8, zVi r2_3 k9 4 f9, zVi r2_4 k10 4 f10, zVi r3_5 k11 14 f11, zVi r3_8 k12 28 f12, zVi r3_9 k13 28 f13, zVi r3_3 k14 14 f14, zVi r3_4 k15 14 f15, zVi r3_7 k16 14 f16, zVi r3_6 k17 14 f17]) hP hK hD hS hA ⟨hx, hb, hml, hown, hts⟩ (zf_X5_isFull l dC dI h1 v1_7 v2_0 r2_1 r2_2 r2_3 r2_4 v2_5 r2_6 r2_7 r2_8 v3_0 v3_1 r3_2 r3_3 r3_4 r3_5 r3_6 r3_7 r3_8 r3_9 o_11 hqo_11 H.size) (va_cwS 2 hts gX5_readStatement_X5_isFull rfl rfl rfl zhd_X5_isFull.2 ⟨Nat.le_of_ble_eq_true rfl, Nat.le_of_ble_eq_true rfl⟩) [2, 3] rfl (of_decide_eq_true rfl) [] rfl rfl hl.1 rfl (Nat.le_of_ble_eq_true rfl) dX5_readStatement_36 ⟨Nat.le_of_ble_eq_true rfl, Nat.le_of_ble_eq_true rfl⟩ [none, none, some 0, some 1] (of_decide_eq_true rfl) (of_decide_eq_true rfl) rfl rfl rfl (fun H locs hw_14n hP hD hS => ?_)
    refine lv_if_eq (tgt := 55) hx hb dX5_readStatement_39 (of_decide_eq_true rfl) (fun c_15 => ?_) (fun c_15 => ?_)
    · have hfn := (if_pos c_15).symm.trans hfn
      refine lv_aload_n hx hb dX5_readStatement_55 rfl (lv_at hl 1 rfl) ?_
      refine va_get (D := (dC, dI)) (ci := 5) (v := .ref r0_0) (C := RX5) (T := TX5) (N := 4) hx hb hts zn_X5_readStatement_X5 hown hK hP 0 rfl rfl 0 (of_decide_eq_true rfl) (hts (.fieldLink RX5 12 "ShortEnough$Parser" "words" "LShortEnough$Words;") zw_X5_readStatement_412) (fun _ h9 => h9) rfl dX5_readStatement_56 ?_
      obtain ⟨o_16, hqo_16, hfn⟩ := zb_s hfn
      refine zcVv (ci := 10) (rest := []) (pc' := 62) (ws' := [zV5 h0 r0_0 v0_1 v0_2 v0_3, zV10 r0_0 r1_0 r1_1 v1_2 o_16.1 o_16.2.1 o_16.2.2.1 o_16.2.2.2.1 o_16.2.2.2.2, zV9 h1 v2_0 r2_1 r2_2 r2_3 r2_4 v2_5 r2_6 r2_7 r2_8, zV4 r2_6 v3_0 v3_1 r3_2 r3_3 r3_4 r3_5 r3_6 r3_7 r3_8 r3_9, zVi r1_1 k4 1200 f4, zVi r1_0 k5 13 f5, zVi r2_1 k6 4 f6, zVi r3_2 k7 14 f7, zVi r2_2 k8 4 f8, zVi r2_3 k9 4 f9, zVi r2_4 k10 4 f10, zVi r3_5 k11 14 f11, zVi r3_8 k12 28 f12, zVi r3_9 k13 28 f13, zVi r3_3 k14 14 f14, zVi r3_4 k15 14 f15, zVi r3_7 k16 14 f16, zVi r3_6 k17 14 f17]) hP hK hD hS hA ⟨hx, hb, hml, hown, hts⟩ (zf_X10_advance l dC dI r0_0 r1_0 r1_1 v1_2 v1_3 v1_4 v1_5 v1_6 v1_7 k4 f4 k5 f5 o_16 hqo_16 H.size) (cwV 0 hts gX5_readStatement_X10_advance rfl rfl rfl zhd_X10_advance ⟨Nat.le_of_ble_eq_true rfl, Nat.le_of_ble_eq_true rfl⟩) [1, 4, 5] rfl (of_decide_eq_true rfl) [0, 1] rfl rfl rfl rfl hl.1 rfl (Nat.le_of_ble_eq_true rfl) dX5_readStatement_59 ⟨Nat.le_of_ble_eq_true rfl, Nat.le_of_ble_eq_true rfl⟩ [none, some 0, none, none, some 1, some 2] (of_decide_eq_true rfl) (of_decide_eq_true rfl) rfl rfl rfl (fun H locs hP hD hS => ?_)
      refine lv_iload_n hx hb dX5_readStatement_62 rfl (lv_at hl 0 rfl) ?_
      obtain ⟨j_20, ej_20, hfn⟩ := zj_g hfn
      have jp_20 : ∀ (s_20 : Int32 × Int32 × Int32 × Int32 × Int32 × Int32 × Int32 × Int32 × Int32 × Int32 × Int32 × Int32 × Int32 × (Nat → Int32) × (Nat → Int32) × (Nat → Int32) × (Nat → Int32) × (Nat → Int32) × (Nat → Int32) × (Nat → Int32) × (Nat → Int32) × (Nat → Int32) × (Nat → Int32) × (Nat → Int32) × (Nat → Int32)) (H : Heap) (locs : List Loc) (ls : Array Slot), j_20 s_20 = some o → va_P (dC, dI) vwCl [zV5 h0 r0_0 s_20.2.1 s_20.2.2.1 s_20.2.2.2.1, zV10 r0_0 r1_0 r1_1 v1_2 s_20.2.2.2.2.2.2.1 s_20.2.2.2.2.2.2.2.1 s_20.2.2.2.2.2.2.2.2.1 s_20.2.2.2.2.2.2.2.2.2.1 s_20.2.2.2.2.2.2.2.2.2.2.1, zV9 h1 s_20.2.2.2.2.1 r2_1 r2_2 r2_3 r2_4 s_20.2.2.2.2.2.1 r2_6 r2_7 r2_8, zV4 r2_6 s_20.2.2.2.2.2.2.2.2.2.2.2.1 s_20.2.2.2.2.2.2.2.2.2.2.2.2.1 r3_2 r3_3 r3_4 r3_5 r3_6 r3_7 r3_8 r3_9, zVi r1_1 k4 1200 f4, zVi r1_0 k5 13 f5, zVi r2_1 k6 4 s_20.2.2.2.2.2.2.2.2.2.2.2.2.2.1, zVi r3_2 k7 14 s_20.2.2.2.2.2.2.2.2.2.2.2.2.2.2.2.2.2.1, zVi r2_2 k8 4 s_20.2.2.2.2.2.2.2.2.2.2.2.2.2.2.1, zVi r2_3 k9 4 s_20.2.2.2.2.2.2.2.2.2.2.2.2.2.2.2.1, zVi r2_4 k10 4 s_20.2.2.2.2.2.2.2.2.2.2.2.2.2.2.2.2.1, zVi r3_5 k11 14 s_20.2.2.2.2.2.2.2.2.2.2.2.2.2.2.2.2.2.2.2.2.1, zVi r3_8 k12 28 s_20.2.2.2.2.2.2.2.2.2.2.2.2.2.2.2.2.2.2.2.2.2.2.2.1, zVi r3_9 k13 28 s_20.2.2.2.2.2.2.2.2.2.2.2.2.2.2.2.2.2.2.2.2.2.2.2.2, zVi r3_3 k14 14 s_20.2.2.2.2.2.2.2.2.2.2.2.2.2.2.2.2.2.2.1, zVi r3_4 k15 14 s_20.2.2.2.2.2.2.2.2.2.2.2.2.2.2.2.2.2.2.2.1, zVi r3_7 k16 14 s_20.2.2.2.2.2.2.2.2.2.2.2.2.2.2.2.2.2.2.2.2.2.2.1, zVi r3_6 k17 14 s_20.2.2.2.2.2.2.2.2.2.2.2.2.2.2.2.2.2.2.2.2.2.1] H → va_D A [zV5 h0 r0_0 s_20.2.1 s_20.2.2.1 s_20.2.2.2.1, zV10 r0_0 r1_0 r1_1 v1_2 s_20.2.2.2.2.2.2.1 s_20.2.2.2.2.2.2.2.1 s_20.2.2.2.2.2.2.2.2.1 s_20.2.2.2.2.2.2.2.2.2.1 s_20.2.2.2.2.2.2.2.2.2.2.1, zV9 h1 s_20.2.2.2.2.1 r2_1 r2_2 r2_3 r2_4 s_20.2.2.2.2.2.1 r2_6 r2_7 r2_8, zV4 r2_6 s_20.2.2.2.2.2.2.2.2.2.2.2.1 s_20.2.2.2.2.2.2.2.2.2.2.2.2.1 r3_2 r3_3 r3_4 r3_5 r3_6 r3_7 r3_8 r3_9, zVi r1_1 k4 1200 f4, zVi r1_0 k5 13 f5, zVi r2_1 k6 4 s_20.2.2.2.2.2.2.2.2.2.2.2.2.2.1, zVi r3_2 k7 14 s_20.2.2.2.2.2.2.2.2.2.2.2.2.2.2.2.2.2.1, zVi r2_2 k8 4 s_20.2.2.2.2.2.2.2.2.2.2.2.2.2.2.1, zVi r2_3 k9 4 s_20.2.2.2.2.2.2.2.2.2.2.2.2.2.2.2.1, zVi r2_4 k10 4 s_20.2.2.2.2.2.2.2.2.2.2.2.2.2.2.2.2.1, zVi r3_5 k11 14 s_20.2.2.2.2.2.2.2.2.2.2.2.2.2.2.2.2.2.2.2.2.1, zVi r3_8 k12 28 s_20.2.2.2.2.2.2.2.2.2.2.2.2.2.2.2.2.2.2.2.2.2.2.2.1, zVi r3_9 k13 28 s_20.2.2.2.2.2.2.2.2.2.2.2.2.2.2.2.2.2.2.2.2.2.2.2.2, zVi r3_3 k14 14 s_20.2.2.2.2.2.2.2.2.2.2.2.2.2.2.2.2.2.2.1, zVi r3_4 k15 14 s_20.2.2.2.2.2.2.2.2.2.2.2.2.2.2.2.2.2.2.2.1, zVi r3_7 k16 14 s_20.2.2.2.2.2.2.2.2.2.2.2.2.2.2.2.2.2.2.2.2.2.2.1, zVi r3_6 k17 14 s_20.2.2.2.2.2.2.2.2.2.2.2.2.2.2.2.2.2.2.2.2.2.1] → va_S A s.heap H locs → lv_has ls 5 [(4, .int s_20.1), (0, .ref h0)] → W p l e (headSpec wsX5_readStatement ({ frames := 5, cells := 0, slots := 0, locals := 118 })).room s m ([.ref h0, .ref h1, .int p2] : List Value).toArray below meth c H locs 0 0 Q (F0 m 187 ls []) := by
        intro s_20 H locs ls hfn hP hD hS hl
        have hfn := zj_s ej_20 hfn
        refine lv_iload hx hb dX5_readStatement_187 (lv_at hl 0 rfl) ?_
        refine lv_if_eq (tgt := 205) hx hb dX5_readStatement_189 (of_decide_eq_true rfl) (fun c_21 => ?_) (fun c_21 => ?_)
        · have hfn := (if_pos c_21).symm.trans hfn
          refine lv_iconst (v := 0) hx hb dX5_readStatement_205 zci_0 ?_
          have ho := Option.some.inj hfn
          subst ho
          exact zrz hx hb hr rfl hK hP hD hS hQ ⟨rfl, zB0⟩ hlocks dX5_readStatement_206
        have hfn := (if_neg c_21).symm.trans hfn
        refine lv_aload_n hx hb dX5_readStatement_192 rfl (lv_at hl 1 rfl) ?_
        refine lv_bipush (v := 59) hx hb dX5_readStatement_193 zcb_59 ?_
        obtain ⟨o_22, hqo_22, hfn⟩ := zb_s hfn
        refine zcVb (ci := 5) (rest := []) (pc' := 198) (ws' := [zV5 h0 r0_0 s_20.2.1 o_22.2.1 o_22.2.2.1, zV10 r0_0 r1_0 r1_1 v1_2 o_22.2.2.2.1 o_22.2.2.2.2.1 o_22.2.2.2.2.2.1 o_22.2.2.2.2.2.2.1 o_22.2.2.2.2.2.2.2, zV9 h1 s_20.2.2.2.2.1 r2_1 r2_2 r2_3 r2_4 s_20.2.2.2.2.2.1 r2_6 r2_7 r2_8, zV4 r2_6 s_20.2.2.2.2.2.2.2.2.2.2.2.1 s_20.2.2.2.2.2.2.2.2.2.2.2.2.1 r3_2 r3_3 r3_4 r3_5 r3_6 r3_7 r3_8 r3_9, zVi r1_1 k4 1200 f4, zVi r1_0 k5 13 f5, zVi r2_1 k6 4 s_20.2.2.2.2.2.2.2.2.2.2.2.2.2.1, zVi r3_2 k7 14 s_20.2.2.2.2.2.2.2.2.2.2.2.2.2.2.2.2.2.1, zVi r2_2 k8 4 s_20.2.2.2.2.2.2.2.2.2.2.2.2.2.2.1, zVi r2_3 k9 4 s_20.2.2.2.2.2.2.2.2.2.2.2.2.2.2.2.1, zVi r2_4 k10 4 s_20.2.2.2.2.2.2.2.2.2.2.2.2.2.2.2.2.1, zVi r3_5 k11 14 s_20.2.2.2.2.2.2.2.2.2.2.2.2.2.2.2.2.2.2.2.2.1, zVi r3_8 k12 28 s_20.2.2.2.2.2.2.2.2.2.2.2.2.2.2.2.2.2.2.2.2.2.2.2.1, zVi r3_9 k13 28 s_20.2.2.2.2.2.2.2.2.2.2.2.2.2.2.2.2.2.2.2.2.2.2.2.2, zVi r3_3 k14 14 s_20.2.2.2.2.2.2.2.2.2.2.2.2.2.2.2.2.2.2.1, zVi r3_4 k15 14 s_20.2.2.2.2.2.2.2.2.2.2.2.2.2.2.2.2.2.2.2.1, zVi r3_7 k16 14 s_20.2.2.2.2.2.2.2.2.2.2.2.2.2.2.2.2.2.2.2.2.2.2.1, zVi r3_6 k17 14 s_20.2.2.2.2.2.2.2.2.2.2.2.2.2.2.2.2.2.2.2.2.2.1]) hP hK hD hS hA ⟨hx, hb, hml, hown, hts⟩ (zf_X5_readSign l dC dI h0 59 r0_0 s_20.2.1 s_20.2.2.1 s_20.2.2.2.1 r1_0 r1_1 v1_2 s_20.2.2.2.2.2.2.1 s_20.2.2.2.2.2.2.2.1 s_20.2.2.2.2.2.2.2.2.1 s_20.2.2.2.2.2.2.2.2.2.1 s_20.2.2.2.2.2.2.2.2.2.2.1 k4 f4 k5 f5 o_22 hqo_22 H.size) (cwV 1 hts gX5_readStatement_X5_readSign rfl rfl rfl zhd_X5_readSign ⟨Nat.le_of_ble_eq_true rfl, Nat.le_of_ble_eq_true rfl⟩) [0, 1, 4, 5] rfl (of_decide_eq_true rfl) [0, 1] rfl rfl rfl rfl hl.1 rfl (Nat.le_of_ble_eq_true rfl) dX5_readStatement_195 ⟨Nat.le_of_ble_eq_true rfl, Nat.le_of_ble_eq_true rfl⟩ [some 0, some 1, none, none, some 2, some 3] (of_decide_eq_true rfl) (of_decide_eq_true rfl) rfl rfl rfl (fun H locs hw_25n hP hD hS => ?_)
        refine lv_if_eq (tgt := 205) hx hb dX5_readStatement_198 (of_decide_eq_true rfl) (fun c_26 => ?_) (fun c_26 => ?_)
        · have hfn := (if_pos c_26).symm.trans hfn
          refine lv_iconst (v := 0) hx hb dX5_readStatement_205 zci_0 ?_
          have ho := Option.some.inj hfn
          subst ho
          exact zrz hx hb hr rfl hK hP hD hS hQ ⟨rfl, zB0⟩ hlocks dX5_readStatement_206
        have hfn := (if_neg c_26).symm.trans hfn
        refine lv_iconst (v := 1) hx hb dX5_readStatement_201 zci_1 ?_
        refine lv_goto (tgt := 206) hx hb dX5_readStatement_202 (of_decide_eq_true rfl) ?_
        have ho := Option.some.inj hfn
        subst ho
        exact zrz hx hb hr rfl hK hP hD hS hQ ⟨rfl, zB1⟩ hlocks dX5_readStatement_206
      by_cases c_27 : v1_7 = 0
      · have hfn := (if_pos c_27).symm.trans hfn
        refine W.eq (g2 := F0 m 63 ls [.int 0]) (by rw [c_27]) ?_
        refine lv_tableIn (tgt := 120) (off := 57) hx hb dX5_readStatement_63 (by decide +kernel) (by decide +kernel) (by decide +kernel) (of_decide_eq_true rfl) ?_
        refine lv_aload_n hx hb dX5_readStatement_120 rfl (lv_at hl 1 rfl) ?_
        refine lv_aload_n hx hb dX5_readStatement_121 rfl (lv_at hl 2 rfl) ?_
        obtain ⟨o_28, hqo_28, hfn⟩ := zb_s hfn
        refine zcVb (ci := 5) (rest := []) (pc' := 125) (ws' := [zV5 h0 r0_0 o_28.2.1 o_28.2.2.1 o_28.2.2.2.1, zV10 r0_0 r1_0 r1_1 v1_2 o_28.2.2.2.2.1 o_28.2.2.2.2.2.1 o_28.2.2.2.2.2.2.1 o_28.2.2.2.2.2.2.2.1 o_28.2.2.2.2.2.2.2.2.1, zV9 h1 o_28.2.2.2.2.2.2.2.2.2.1 r2_1 r2_2 r2_3 r2_4 v2_5 r2_6 r2_7 r2_8, zV4 r2_6 v3_0 v3_1 r3_2 r3_3 r3_4 r3_5 r3_6 r3_7 r3_8 r3_9, zVi r1_1 k4 1200 f4, zVi r1_0 k5 13 f5, zVi r2_1 k6 4 o_28.2.2.2.2.2.2.2.2.2.2.1, zVi r3_2 k7 14 f7, zVi r2_2 k8 4 o_28.2.2.2.2.2.2.2.2.2.2.2.1, zVi r2_3 k9 4 o_28.2.2.2.2.2.2.2.2.2.2.2.2.1, zVi r2_4 k10 4 o_28.2.2.2.2.2.2.2.2.2.2.2.2.2, zVi r3_5 k11 14 f11, zVi r3_8 k12 28 f12, zVi r3_9 k13 28 f13, zVi r3_3 k14 14 f14, zVi r3_4 k15 14 f15, zVi r3_7 k16 14 f16, zVi r3_6 k17 14 f17]) hP hK hD hS hA ⟨hx, hb, hml, hown, hts⟩ (zf_X5_readFormat l dC dI h0 h1 r0_0 v0_1 v0_2 v0_3 r1_0 r1_1 v1_2 o_16.1 o_16.2.1 o_16.2.2.1 o_16.2.2.2.1 o_16.2.2.2.2 v2_0 r2_1 r2_2 r2_3 r2_4 v2_5 r2_6 r2_7 r2_8 k6 f6 v3_0 v3_1 r3_2 r3_3 r3_4 r3_5 r3_6 r3_7 r3_8 r3_9 k7 f7 k4 f4 k5 f5 k8 f8 k9 f9 k10 f10 o_28 hqo_28 H.size) (cwV 1 hts gX5_readStatement_X5_readFormat rfl rfl rfl zhd_X5_readFormat ⟨Nat.le_of_ble_eq_true rfl, Nat.le_of_ble_eq_true rfl⟩) [0, 1, 2, 6, 3, 7, 4, 5, 8, 9, 10] rfl (of_decide_eq_true rfl) [2, 3, 0, 1, 4, 5, 6] rfl rfl rfl rfl hl.1 rfl (Nat.le_of_ble_eq_true rfl) dX5_readStatement_122 ⟨Nat.le_of_ble_eq_true rfl, Nat.le_of_ble_eq_true rfl⟩ [some 0, some 1, some 2, some 4, some 6, some 7, some 3, some 5, some 8, some 9, some 10] (of_decide_eq_true rfl) (of_decide_eq_true rfl) rfl rfl rfl (fun H locs hw_31n hP hD hS => ?_)
        refine lv_istore (lv' := [(4, .int o_28.1), (3, .int v1_7), (0, .ref h0), (1, .ref h1), (2, .int p2)]) hx hb dX5_readStatement_125 hl (of_decide_eq_true rfl) rfl (fun ls hl => ?_)
        refine lv_goto (tgt := 187) hx hb dX5_readStatement_127 (of_decide_eq_true rfl) ?_
        exact jp_20 (o_28.1, o_28.2.1, o_28.2.2.1, o_28.2.2.2.1, o_28.2.2.2.2.2.2.2.2.2.1, v2_5, o_28.2.2.2.2.1, o_28.2.2.2.2.2.1, o_28.2.2.2.2.2.2.1, o_28.2.2.2.2.2.2.2.1, o_28.2.2.2.2.2.2.2.2.1, v3_0, v3_1, o_28.2.2.2.2.2.2.2.2.2.2.1, o_28.2.2.2.2.2.2.2.2.2.2.2.1, o_28.2.2.2.2.2.2.2.2.2.2.2.2.1, o_28.2.2.2.2.2.2.2.2.2.2.2.2.2, f7, f14, f15, f11, f17, f16, f12, f13) H locs ls hfn hP hD hS (lv_sub hl [0, 2] rfl)
      have hfn := (if_neg c_27).symm.trans hfn
      have oc_27 := zk_ne rfl (by decide +kernel : (0 : Int32).toInt = 0) c_27
      by_cases c_32 : v1_7 = 1
      · have hfn := (if_pos c_32).symm.trans hfn
        refine W.eq (g2 := F0 m 63 ls [.int 1]) (by rw [c_32]) ?_
        refine lv_tableIn (tgt := 180) (off := 117) hx hb dX5_readStatement_63 (by decide +kernel) (by decide +kernel) (by decide +kernel) (of_decide_eq_true rfl) ?_
        refine lv_aload_n hx hb dX5_readStatement_180 rfl (lv_at hl 1 rfl) ?_
        refine lv_aload_n hx hb dX5_readStatement_181 rfl (lv_at hl 2 rfl) ?_
        obtain ⟨o_33, hqo_33, hfn⟩ := zb_s hfn
        refine zcVb (ci := 5) (rest := []) (pc' := 185) (ws' := [zV5 h0 r0_0 o_33.2.1 o_33.2.2.1 o_33.2.2.2.1, zV10 r0_0 r1_0 r1_1 v1_2 o_33.2.2.2.2.1 o_33.2.2.2.2.2.1 o_33.2.2.2.2.2.2.1 o_33.2.2.2.2.2.2.2.1 o_33.2.2.2.2.2.2.2.2.1, zV9 h1 v2_0 r2_1 r2_2 r2_3 r2_4 v2_5 r2_6 r2_7 r2_8, zV4 r2_6 v3_0 v3_1 r3_2 r3_3 r3_4 r3_5 r3_6 r3_7 r3_8 r3_9, zVi r1_1 k4 1200 f4, zVi r1_0 k5 13 f5, zVi r2_1 k6 4 f6, zVi r3_2 k7 14 f7, zVi r2_2 k8 4 f8, zVi r2_3 k9 4 f9, zVi r2_4 k10 4 f10, zVi r3_5 k11 14 o_33.2.2.2.2.2.2.2.2.2, zVi r3_8 k12 28 f12, zVi r3_9 k13 28 f13, zVi r3_3 k14 14 f14, zVi r3_4 k15 14 f15, zVi r3_7 k16 14 f16, zVi r3_6 k17 14 f17]) hP hK hD hS hA ⟨hx, hb, hml, hown, hts⟩ (zf_X5_readAnswer l dC dI h0 h1 r0_0 v0_1 v0_2 v0_3 v2_0 r2_1 r2_2 r2_3 r2_4 v2_5 r2_6 r2_7 r2_8 r1_0 r1_1 v1_2 o_16.1 o_16.2.1 o_16.2.2.1 o_16.2.2.2.1 o_16.2.2.2.2 v3_0 v3_1 r3_2 r3_3 r3_4 r3_5 r3_6 r3_7 r3_8 r3_9 k7 f7 k4 f4 k5 f5 k11 f11 o_33 hqo_33 H.size) (cwV 1 hts gX5_readStatement_X5_readAnswer rfl rfl rfl zhd_X5_readAnswer ⟨Nat.le_of_ble_eq_true rfl, Nat.le_of_ble_eq_true rfl⟩) [0, 2, 1, 3, 7, 4, 5, 11] rfl (of_decide_eq_true rfl) [3, 0, 1, 7] rfl rfl rfl rfl hl.1 rfl (Nat.le_of_ble_eq_true rfl) dX5_readStatement_182 ⟨Nat.le_of_ble_eq_true rfl, Nat.le_of_ble_eq_true rfl⟩ [some 0, some 2, some 1, some 3, some 5, some 6, none, some 4, none, none, none, some 7] (of_decide_eq_true rfl) (of_decide_eq_true rfl) rfl rfl rfl (fun H locs hw_36n hP hD hS => ?_)
        refine lv_istore (lv' := [(4, .int o_33.1), (3, .int v1_7), (0, .ref h0), (1, .ref h1), (2, .int p2)]) hx hb dX5_readStatement_185 hl (of_decide_eq_true rfl) rfl (fun ls hl => ?_)
        exact jp_20 (o_33.1, o_33.2.1, o_33.2.2.1, o_33.2.2.2.1, v2_0, v2_5, o_33.2.2.2.2.1, o_33.2.2.2.2.2.1, o_33.2.2.2.2.2.2.1, o_33.2.2.2.2.2.2.2.1, o_33.2.2.2.2.2.2.2.2.1, v3_0, v3_1, f6, f8, f9, f10, f7, f14, f15, o_33.2.2.2.2.2.2.2.2.2, f17, f16, f12, f13) H locs ls hfn hP hD hS (lv_sub hl [0, 2] rfl)
      have hfn := (if_neg c_32).symm.trans hfn
      have oc_32 := zk_ne rfl (by decide +kernel : (1 : Int32).toInt = 1) c_32
      by_cases c_37 : v1_7 = 2
      · have hfn := (if_pos c_37).symm.trans hfn
        refine W.eq (g2 := F0 m 63 ls [.int 2]) (by rw [c_37]) ?_
        refine lv_tableIn (tgt := 180) (off := 117) hx hb dX5_readStatement_63 (by decide +kernel) (by decide +kernel) (by decide +kernel) (of_decide_eq_true rfl) ?_
        refine lv_aload_n hx hb dX5_readStatement_180 rfl (lv_at hl 1 rfl) ?_
        refine lv_aload_n hx hb dX5_readStatement_181 rfl (lv_at hl 2 rfl) ?_
        obtain ⟨o_38, hqo_38, hfn⟩ := zb_s hfn
        refine zcVb (ci := 5) (rest := []) (pc' := 185) (ws' := [zV5 h0 r0_0 o_38.2.1 o_38.2.2.1 o_38.2.2.2.1, zV10 r0_0 r1_0 r1_1 v1_2 o_38.2.2.2.2.1 o_38.2.2.2.2.2.1 o_38.2.2.2.2.2.2.1 o_38.2.2.2.2.2.2.2.1 o_38.2.2.2.2.2.2.2.2.1, zV9 h1 v2_0 r2_1 r2_2 r2_3 r2_4 v2_5 r2_6 r2_7 r2_8, zV4 r2_6 v3_0 v3_1 r3_2 r3_3 r3_4 r3_5 r3_6 r3_7 r3_8 r3_9, zVi r1_1 k4 1200 f4, zVi r1_0 k5 13 f5, zVi r2_1 k6 4 f6, zVi r3_2 k7 14 f7, zVi r2_2 k8 4 f8, zVi r2_3 k9 4 f9, zVi r2_4 k10 4 f10, zVi r3_5 k11 14 o_38.2.2.2.2.2.2.2.2.2, zVi r3_8 k12 28 f12, zVi r3_9 k13 28 f13, zVi r3_3 k14 14 f14, zVi r3_4 k15 14 f15, zVi r3_7 k16 14 f16, zVi r3_6 k17 14 f17]) hP hK hD hS hA ⟨hx, hb, hml, hown, hts⟩ (zf_X5_readAnswer l dC dI h0 h1 r0_0 v0_1 v0_2 v0_3 v2_0 r2_1 r2_2 r2_3 r2_4 v2_5 r2_6 r2_7 r2_8 r1_0 r1_1 v1_2 o_16.1 o_16.2.1 o_16.2.2.1 o_16.2.2.2.1 o_16.2.2.2.2 v3_0 v3_1 r3_2 r3_3 r3_4 r3_5 r3_6 r3_7 r3_8 r3_9 k7 f7 k4 f4 k5 f5 k11 f11 o_38 hqo_38 H.size) (cwV 1 hts gX5_readStatement_X5_readAnswer rfl rfl rfl zhd_X5_readAnswer ⟨Nat.le_of_ble_eq_true rfl, Nat.le_of_ble_eq_true rfl⟩) [0, 2, 1, 3, 7, 4, 5, 11] rfl (of_decide_eq_true rfl) [3, 0, 1, 7] rfl rfl rfl rfl hl.1 rfl (Nat.le_of_ble_eq_true rfl) dX5_readStatement_182 ⟨Nat.le_of_ble_eq_true rfl, Nat.le_of_ble_eq_true rfl⟩ [some 0, some 2, some 1, some 3, some 5, some 6, none, some 4, none, none, none, some 7] (of_decide_eq_true rfl) (of_decide_eq_true rfl) rfl rfl rfl (fun H locs hw_41n hP hD hS => ?_)
        refine lv_istore (lv' := [(4, .int o_38.1), (3, .int v1_7), (0, .ref h0), (1, .ref h1), (2, .int p2)]) hx hb dX5_readStatement_185 hl (of_decide_eq_true rfl) rfl (fun ls hl => ?_)
        exact jp_20 (o_38.1, o_38.2.1, o_38.2.2.1, o_38.2.2.2.1, v2_0, v2_5, o_38.2.2.2.2.1, o_38.2.2.2.2.2.1, o_38.2.2.2.2.2.2.1, o_38.2.2.2.2.2.2.2.1, o_38.2.2.2.2.2.2.2.2.1, v3_0, v3_1, f6, f8, f9, f10, f7, f14, f15, o_38.2.2.2.2.2.2.2.2.2, f17, f16, f12, f13) H locs ls hfn hP hD hS (lv_sub hl [0, 2] rfl)
      have hfn := (if_neg c_37).symm.trans hfn
      have oc_37 := zk_ne rfl (by decide +kernel : (2 : Int32).toInt = 2) c_37
      by_cases c_42 : v1_7 = 3
      · have hfn := (if_pos c_42).symm.trans hfn
        refine W.eq (g2 := F0 m 63 ls [.int 3]) (by rw [c_42]) ?_
        refine lv_tableIn (tgt := 180) (off := 117) hx hb dX5_readStatement_63 (by decide +kernel) (by decide +kernel) (by decide +kernel) (of_decide_eq_true rfl) ?_
        refine lv_aload_n hx hb dX5_readStatement_180 rfl (lv_at hl 1 rfl) ?_
        refine lv_aload_n hx hb dX5_readStatement_181 rfl (lv_at hl 2 rfl) ?_
        obtain ⟨o_43, hqo_43, hfn⟩ := zb_s hfn
        refine zcVb (ci := 5) (rest := []) (pc' := 185) (ws' := [zV5 h0 r0_0 o_43.2.1 o_43.2.2.1 o_43.2.2.2.1, zV10 r0_0 r1_0 r1_1 v1_2 o_43.2.2.2.2.1 o_43.2.2.2.2.2.1 o_43.2.2.2.2.2.2.1 o_43.2.2.2.2.2.2.2.1 o_43.2.2.2.2.2.2.2.2.1, zV9 h1 v2_0 r2_1 r2_2 r2_3 r2_4 v2_5 r2_6 r2_7 r2_8, zV4 r2_6 v3_0 v3_1 r3_2 r3_3 r3_4 r3_5 r3_6 r3_7 r3_8 r3_9, zVi r1_1 k4 1200 f4, zVi r1_0 k5 13 f5, zVi r2_1 k6 4 f6, zVi r3_2 k7 14 f7, zVi r2_2 k8 4 f8, zVi r2_3 k9 4 f9, zVi r2_4 k10 4 f10, zVi r3_5 k11 14 o_43.2.2.2.2.2.2.2.2.2, zVi r3_8 k12 28 f12, zVi r3_9 k13 28 f13, zVi r3_3 k14 14 f14, zVi r3_4 k15 14 f15, zVi r3_7 k16 14 f16, zVi r3_6 k17 14 f17]) hP hK hD hS hA ⟨hx, hb, hml, hown, hts⟩ (zf_X5_readAnswer l dC dI h0 h1 r0_0 v0_1 v0_2 v0_3 v2_0 r2_1 r2_2 r2_3 r2_4 v2_5 r2_6 r2_7 r2_8 r1_0 r1_1 v1_2 o_16.1 o_16.2.1 o_16.2.2.1 o_16.2.2.2.1 o_16.2.2.2.2 v3_0 v3_1 r3_2 r3_3 r3_4 r3_5 r3_6 r3_7 r3_8 r3_9 k7 f7 k4 f4 k5 f5 k11 f11 o_43 hqo_43 H.size) (cwV 1 hts gX5_readStatement_X5_readAnswer rfl rfl rfl zhd_X5_readAnswer ⟨Nat.le_of_ble_eq_true rfl, Nat.le_of_ble_eq_true rfl⟩) [0, 2, 1, 3, 7, 4, 5, 11] rfl (of_decide_eq_true rfl) [3, 0, 1, 7] rfl rfl rfl rfl hl.1 rfl (Nat.le_of_ble_eq_true rfl) dX5_readStatement_182 ⟨Nat.le_of_ble_eq_true rfl, Nat.le_of_ble_eq_true rfl⟩ [some 0, some 2, some 1, some 3, some 5, some 6, none, some 4, none, none, none, some 7] (of_decide_eq_true rfl) (of_decide_eq_true rfl) rfl rfl rfl (fun H locs hw_46n hP hD hS => ?_)
        refine lv_istore (lv' := [(4, .int o_43.1), (3, .int v1_7), (0, .ref h0), (1, .ref h1), (2, .int p2)]) hx hb dX5_readStatement_185 hl (of_decide_eq_true rfl) rfl (fun ls hl => ?_)
        exact jp_20 (o_43.1, o_43.2.1, o_43.2.2.1, o_43.2.2.2.1, v2_0, v2_5, o_43.2.2.2.2.1, o_43.2.2.2.2.2.1, o_43.2.2.2.2.2.2.1, o_43.2.2.2.2.2.2.2.1, o_43.2.2.2.2.2.2.2.2.1, v3_0, v3_1, f6, f8, f9, f10, f7, f14, f15, o_43.2.2.2.2.2.2.2.2.2, f17, f16, f12, f13) H locs ls hfn hP hD hS (lv_sub hl [0, 2] rfl)
      have hfn := (if_neg c_42).symm.trans hfn
      have oc_42 := zk_ne rfl (by decide +kernel : (3 : Int32).toInt = 3) c_42
      by_cases c_47 : v1_7 = 4
      · have hfn := (if_pos c_47).symm.trans hfn
        refine W.eq (g2 := F0 m 63 ls [.int 4]) (by rw [c_47]) ?_
        refine lv_tableIn (tgt := 130) (off := 67) hx hb dX5_readStatement_63 (by decide +kernel) (by decide +kernel) (by decide +kernel) (of_decide_eq_true rfl) ?_
        refine lv_aload_n hx hb dX5_readStatement_130 rfl (lv_at hl 1 rfl) ?_
        refine lv_aload_n hx hb dX5_readStatement_131 rfl (lv_at hl 2 rfl) ?_
        obtain ⟨o_48, hqo_48, hfn⟩ := zb_s hfn
        refine zcVb (ci := 5) (rest := []) (pc' := 135) (ws' := [zV5 h0 r0_0 o_48.2.1 o_48.2.2.1 o_48.2.2.2.1, zV10 r0_0 r1_0 r1_1 v1_2 o_48.2.2.2.2.1 o_48.2.2.2.2.2.1 o_48.2.2.2.2.2.2.1 o_48.2.2.2.2.2.2.2.1 o_48.2.2.2.2.2.2.2.2.1, zV9 h1 v2_0 r2_1 r2_2 r2_3 r2_4 o_48.2.2.2.2.2.2.2.2.2 r2_6 r2_7 r2_8, zV4 r2_6 v3_0 v3_1 r3_2 r3_3 r3_4 r3_5 r3_6 r3_7 r3_8 r3_9, zVi r1_1 k4 1200 f4, zVi r1_0 k5 13 f5, zVi r2_1 k6 4 f6, zVi r3_2 k7 14 f7, zVi r2_2 k8 4 f8, zVi r2_3 k9 4 f9, zVi r2_4 k10 4 f10, zVi r3_5 k11 14 f11, zVi r3_8 k12 28 f12, zVi r3_9 k13 28 f13, zVi r3_3 k14 14 f14, zVi r3_4 k15 14 f15, zVi r3_7 k16 14 f16, zVi r3_6 k17 14 f17]) hP hK hD hS hA ⟨hx, hb, hml, hown, hts⟩ (zf_X5_readCast l dC dI h0 h1 r0_0 v0_1 v0_2 v0_3 r1_0 r1_1 v1_2 o_16.1 o_16.2.1 o_16.2.2.1 o_16.2.2.2.1 o_16.2.2.2.2 k4 f4 k5 f5 v2_0 r2_1 r2_2 r2_3 r2_4 v2_5 r2_6 r2_7 r2_8 o_48 hqo_48 H.size) (cwV 1 hts gX5_readStatement_X5_readCast rfl rfl rfl zhd_X5_readCast ⟨Nat.le_of_ble_eq_true rfl, Nat.le_of_ble_eq_true rfl⟩) [0, 1, 4, 5, 2] rfl (of_decide_eq_true rfl) [0, 1] rfl rfl rfl rfl hl.1 rfl (Nat.le_of_ble_eq_true rfl) dX5_readStatement_132 ⟨Nat.le_of_ble_eq_true rfl, Nat.le_of_ble_eq_true rfl⟩ [some 0, some 1, some 4, none, some 2, some 3] (of_decide_eq_true rfl) (of_decide_eq_true rfl) rfl rfl rfl (fun H locs hw_51n hP hD hS => ?_)
        refine lv_istore (lv' := [(4, .int o_48.1), (3, .int v1_7), (0, .ref h0), (1, .ref h1), (2, .int p2)]) hx hb dX5_readStatement_135 hl (of_decide_eq_true rfl) rfl (fun ls hl => ?_)
        refine lv_goto (tgt := 187) hx hb dX5_readStatement_137 (of_decide_eq_true rfl) ?_
        exact jp_20 (o_48.1, o_48.2.1, o_48.2.2.1, o_48.2.2.2.1, v2_0, o_48.2.2.2.2.2.2.2.2.2, o_48.2.2.2.2.1, o_48.2.2.2.2.2.1, o_48.2.2.2.2.2.2.1, o_48.2.2.2.2.2.2.2.1, o_48.2.2.2.2.2.2.2.2.1, v3_0, v3_1, f6, f8, f9, f10, f7, f14, f15, f11, f17, f16, f12, f13) H locs ls hfn hP hD hS (lv_sub hl [0, 2] rfl)
      have hfn := (if_neg c_47).symm.trans hfn
      have oc_47 := zk_ne rfl (by decide +kernel : (4 : Int32).toInt = 4) c_47
      by_cases c_52 : v1_7 = 5
      · have hfn := (if_pos c_52).symm.trans hfn
        refine W.eq (g2 := F0 m 63 ls [.int 5]) (by rw [c_52]) ?_
        refine lv_tableIn (tgt := 140) (off := 77) hx hb dX5_readStatement_63 (by decide +kernel) (by decide +kernel) (by decide +kernel) (of_decide_eq_true rfl) ?_
        refine lv_aload_n hx hb dX5_readStatement_140 rfl (lv_at hl 1 rfl) ?_
        refine lv_aload_n hx hb dX5_readStatement_141 rfl (lv_at hl 2 rfl) ?_
        obtain ⟨o_53, hqo_53, hfn⟩ := zb_s hfn
        refine zcVb (ci := 5) (rest := []) (pc' := 145) (ws' := [zV5 h0 r0_0 o_53.2.1 o_53.2.2.1 o_53.2.2.2.1, zV10 r0_0 r1_0 r1_1 v1_2 o_53.2.2.2.2.1 o_53.2.2.2.2.2.1 o_53.2.2.2.2.2.2.1 o_53.2.2.2.2.2.2.2.1 o_53.2.2.2.2.2.2.2.2.1, zV9 h1 v2_0 r2_1 r2_2 r2_3 r2_4 v2_5 r2_6 r2_7 r2_8, zV4 r2_6 o_53.2.2.2.2.2.2.2.2.2.1 o_53.2.2.2.2.2.2.2.2.2.2.1 r3_2 r3_3 r3_4 r3_5 r3_6 r3_7 r3_8 r3_9, zVi r1_1 k4 1200 f4, zVi r1_0 k5 13 f5, zVi r2_1 k6 4 f6, zVi r3_2 k7 14 o_53.2.2.2.2.2.2.2.2.2.2.2.1, zVi r2_2 k8 4 f8, zVi r2_3 k9 4 f9, zVi r2_4 k10 4 f10, zVi r3_5 k11 14 o_53.2.2.2.2.2.2.2.2.2.2.2.2.2.2.2.2.1, zVi r3_8 k12 28 o_53.2.2.2.2.2.2.2.2.2.2.2.2.1, zVi r3_9 k13 28 o_53.2.2.2.2.2.2.2.2.2.2.2.2.2.1, zVi r3_3 k14 14 o_53.2.2.2.2.2.2.2.2.2.2.2.2.2.2.1, zVi r3_4 k15 14 o_53.2.2.2.2.2.2.2.2.2.2.2.2.2.2.2.1, zVi r3_7 k16 14 o_53.2.2.2.2.2.2.2.2.2.2.2.2.2.2.2.2.2.1, zVi r3_6 k17 14 o_53.2.2.2.2.2.2.2.2.2.2.2.2.2.2.2.2.2.2]) hP hK hD hS hA ⟨hx, hb, hml, hown, hts⟩ (zf_X5_readBox l dC dI h0 h1 r0_0 v0_1 v0_2 v0_3 r1_0 r1_1 v1_2 o_16.1 o_16.2.1 o_16.2.2.1 o_16.2.2.2.1 o_16.2.2.2.2 v2_0 r2_1 r2_2 r2_3 r2_4 v2_5 r2_6 r2_7 r2_8 k6 f6 v3_0 v3_1 r3_2 r3_3 r3_4 r3_5 r3_6 r3_7 r3_8 r3_9 k7 f7 k4 f4 k5 f5 k12 f12 k13 f13 k14 f14 k15 f15 k11 f11 k16 f16 k17 f17 o_53 hqo_53 H.size) (cwV 1 hts gX5_readStatement_X5_readBox rfl rfl rfl zhd_X5_readBox ⟨Nat.le_of_ble_eq_true rfl, Nat.le_of_ble_eq_true rfl⟩) [0, 1, 2, 6, 3, 7, 4, 5, 12, 13, 14, 15, 11, 16, 17] rfl (of_decide_eq_true rfl) [2, 3, 0, 1, 8, 9, 10, 11, 7, 12, 13] rfl rfl rfl rfl hl.1 rfl (Nat.le_of_ble_eq_true rfl) dX5_readStatement_142 ⟨Nat.le_of_ble_eq_true rfl, Nat.le_of_ble_eq_true rfl⟩ [some 0, some 1, some 2, some 4, some 6, some 7, some 3, some 5, none, none, none, some 12, some 8, some 9, some 10, some 11, some 13, some 14] (of_decide_eq_true rfl) (of_decide_eq_true rfl) rfl rfl rfl (fun H locs hw_56n hP hD hS => ?_)
        refine lv_istore (lv' := [(4, .int o_53.1), (3, .int v1_7), (0, .ref h0), (1, .ref h1), (2, .int p2)]) hx hb dX5_readStatement_145 hl (of_decide_eq_true rfl) rfl (fun ls hl => ?_)
        refine lv_goto (tgt := 187) hx hb dX5_readStatement_147 (of_decide_eq_true rfl) ?_
        exact jp_20 (o_53.1, o_53.2.1, o_53.2.2.1, o_53.2.2.2.1, v2_0, v2_5, o_53.2.2.2.2.1, o_53.2.2.2.2.2.1, o_53.2.2.2.2.2.2.1, o_53.2.2.2.2.2.2.2.1, o_53.2.2.2.2.2.2.2.2.1, o_53.2.2.2.2.2.2.2.2.2.1, o_53.2.2.2.2.2.2.2.2.2.2.1, f6, f8, f9, f10, o_53.2.2.2.2.2.2.2.2.2.2.2.1, o_53.2.2.2.2.2.2.2.2.2.2.2.2.2.2.1, o_53.2.2.2.2.2.2.2.2.2.2.2.2.2.2.2.1, o_53.2.2.2.2.2.2.2.2.2.2.2.2.2.2.2.2.1, o_53.2.2.2.2.2.2.2.2.2.2.2.2.2.2.2.2.2.2, o_53.2.2.2.2.2.2.2.2.2.2.2.2.2.2.2.2.2.1, o_53.2.2.2.2.2.2.2.2.2.2.2.2.1, o_53.2.2.2.2.2.2.2.2.2.2.2.2.2.1) H locs ls hfn hP hD hS (lv_sub hl [0, 2] rfl)
      have hfn := (if_neg c_52).symm.trans hfn
      have oc_52 := zk_ne rfl (by decide +kernel : (5 : Int32).toInt = 5) c_52
      by_cases c_57 : v1_7 = 6
      · have hfn := (if_pos c_57).symm.trans hfn
        refine W.eq (g2 := F0 m 63 ls [.int 6]) (by rw [c_57]) ?_
        refine lv_tableIn (tgt := 150) (off := 87) hx hb dX5_readStatement_63 (by decide +kernel) (by decide +kernel) (by decide +kernel) (of_decide_eq_true rfl) ?_
        refine lv_aload_n hx hb dX5_readStatement_150 rfl (lv_at hl 1 rfl) ?_
        refine lv_aload_n hx hb dX5_readStatement_151 rfl (lv_at hl 2 rfl) ?_
        obtain ⟨o_58, hqo_58, hfn⟩ := zb_s hfn
        refine zcVb (ci := 5) (rest := []) (pc' := 155) (ws' := [zV5 h0 r0_0 o_58.2.1 o_58.2.2.1 o_58.2.2.2.1, zV10 r0_0 r1_0 r1_1 v1_2 o_58.2.2.2.2.1 o_58.2.2.2.2.2.1 o_58.2.2.2.2.2.2.1 o_58.2.2.2.2.2.2.2.1 o_58.2.2.2.2.2.2.2.2.1, zV9 h1 v2_0 r2_1 r2_2 r2_3 r2_4 v2_5 r2_6 r2_7 r2_8, zV4 r2_6 o_58.2.2.2.2.2.2.2.2.2.1 o_58.2.2.2.2.2.2.2.2.2.2.1 r3_2 r3_3 r3_4 r3_5 r3_6 r3_7 r3_8 r3_9, zVi r1_1 k4 1200 f4, zVi r1_0 k5 13 f5, zVi r2_1 k6 4 f6, zVi r3_2 k7 14 o_58.2.2.2.2.2.2.2.2.2.2.2.1, zVi r2_2 k8 4 f8, zVi r2_3 k9 4 f9, zVi r2_4 k10 4 f10, zVi r3_5 k11 14 o_58.2.2.2.2.2.2.2.2.2.2.2.2.2.2.2.2.1, zVi r3_8 k12 28 o_58.2.2.2.2.2.2.2.2.2.2.2.2.1, zVi r3_9 k13 28 o_58.2.2.2.2.2.2.2.2.2.2.2.2.2.1, zVi r3_3 k14 14 o_58.2.2.2.2.2.2.2.2.2.2.2.2.2.2.1, zVi r3_4 k15 14 o_58.2.2.2.2.2.2.2.2.2.2.2.2.2.2.2.1, zVi r3_7 k16 14 o_58.2.2.2.2.2.2.2.2.2.2.2.2.2.2.2.2.2.1, zVi r3_6 k17 14 o_58.2.2.2.2.2.2.2.2.2.2.2.2.2.2.2.2.2.2]) hP hK hD hS hA ⟨hx, hb, hml, hown, hts⟩ (zf_X5_readLet l dC dI h0 h1 r0_0 v0_1 v0_2 v0_3 r1_0 r1_1 v1_2 o_16.1 o_16.2.1 o_16.2.2.1 o_16.2.2.2.1 o_16.2.2.2.2 v2_0 r2_1 r2_2 r2_3 r2_4 v2_5 r2_6 r2_7 r2_8 k6 f6 v3_0 v3_1 r3_2 r3_3 r3_4 r3_5 r3_6 r3_7 r3_8 r3_9 k7 f7 k4 f4 k5 f5 k12 f12 k13 f13 k14 f14 k15 f15 k11 f11 k16 f16 k17 f17 o_58 hqo_58 H.size) (cwV 1 hts gX5_readStatement_X5_readLet rfl rfl rfl zhd_X5_readLet ⟨Nat.le_of_ble_eq_true rfl, Nat.le_of_ble_eq_true rfl⟩) [0, 1, 2, 6, 3, 7, 4, 5, 12, 13, 14, 15, 11, 16, 17] rfl (of_decide_eq_true rfl) [2, 3, 0, 1, 8, 9, 10, 11, 7, 12, 13] rfl rfl rfl rfl hl.1 rfl (Nat.le_of_ble_eq_true rfl) dX5_readStatement_152 ⟨Nat.le_of_ble_eq_true rfl, Nat.le_of_ble_eq_true rfl⟩ [some 0, some 1, some 2, some 4, some 6, some 7, some 3, some 5, none, none, none, some 12, some 8, some 9, some 10, some 11, some 13, some 14] (of_decide_eq_true rfl) (of_decide_eq_true rfl) rfl rfl rfl (fun H locs hw_61n hP hD hS => ?_)
        refine lv_istore (lv' := [(4, .int o_58.1), (3, .int v1_7), (0, .ref h0), (1, .ref h1), (2, .int p2)]) hx hb dX5_readStatement_155 hl (of_decide_eq_true rfl) rfl (fun ls hl => ?_)
        refine lv_goto (tgt := 187) hx hb dX5_readStatement_157 (of_decide_eq_true rfl) ?_
        exact jp_20 (o_58.1, o_58.2.1, o_58.2.2.1, o_58.2.2.2.1, v2_0, v2_5, o_58.2.2.2.2.1, o_58.2.2.2.2.2.1, o_58.2.2.2.2.2.2.1, o_58.2.2.2.2.2.2.2.1, o_58.2.2.2.2.2.2.2.2.1, o_58.2.2.2.2.2.2.2.2.2.1, o_58.2.2.2.2.2.2.2.2.2.2.1, f6, f8, f9, f10, o_58.2.2.2.2.2.2.2.2.2.2.2.1, o_58.2.2.2.2.2.2.2.2.2.2.2.2.2.2.1, o_58.2.2.2.2.2.2.2.2.2.2.2.2.2.2.2.1, o_58.2.2.2.2.2.2.2.2.2.2.2.2.2.2.2.2.1, o_58.2.2.2.2.2.2.2.2.2.2.2.2.2.2.2.2.2.2, o_58.2.2.2.2.2.2.2.2.2.2.2.2.2.2.2.2.2.1, o_58.2.2.2.2.2.2.2.2.2.2.2.2.1, o_58.2.2.2.2.2.2.2.2.2.2.2.2.2.1) H locs ls hfn hP hD hS (lv_sub hl [0, 2] rfl)
      have hfn := (if_neg c_57).symm.trans hfn
      have oc_57 := zk_ne rfl (by decide +kernel : (6 : Int32).toInt = 6) c_57
      by_cases c_62 : v1_7 = 7
      · have hfn := (if_pos c_62).symm.trans hfn
        refine W.eq (g2 := F0 m 63 ls [.int 7]) (by rw [c_62]) ?_
        refine lv_tableIn (tgt := 180) (off := 117) hx hb dX5_readStatement_63 (by decide +kernel) (by decide +kernel) (by decide +kernel) (of_decide_eq_true rfl) ?_
        refine lv_aload_n hx hb dX5_readStatement_180 rfl (lv_at hl 1 rfl) ?_
        refine lv_aload_n hx hb dX5_readStatement_181 rfl (lv_at hl 2 rfl) ?_
        obtain ⟨o_63, hqo_63, hfn⟩ := zb_s hfn
        refine zcVb (ci := 5) (rest := []) (pc' := 185) (ws' := [zV5 h0 r0_0 o_63.2.1 o_63.2.2.1 o_63.2.2.2.1, zV10 r0_0 r1_0 r1_1 v1_2 o_63.2.2.2.2.1 o_63.2.2.2.2.2.1 o_63.2.2.2.2.2.2.1 o_63.2.2.2.2.2.2.2.1 o_63.2.2.2.2.2.2.2.2.1, zV9 h1 v2_0 r2_1 r2_2 r2_3 r2_4 v2_5 r2_6 r2_7 r2_8, zV4 r2_6 v3_0 v3_1 r3_2 r3_3 r3_4 r3_5 r3_6 r3_7 r3_8 r3_9, zVi r1_1 k4 1200 f4, zVi r1_0 k5 13 f5, zVi r2_1 k6 4 f6, zVi r3_2 k7 14 f7, zVi r2_2 k8 4 f8, zVi r2_3 k9 4 f9, zVi r2_4 k10 4 f10, zVi r3_5 k11 14 o_63.2.2.2.2.2.2.2.2.2, zVi r3_8 k12 28 f12, zVi r3_9 k13 28 f13, zVi r3_3 k14 14 f14, zVi r3_4 k15 14 f15, zVi r3_7 k16 14 f16, zVi r3_6 k17 14 f17]) hP hK hD hS hA ⟨hx, hb, hml, hown, hts⟩ (zf_X5_readAnswer l dC dI h0 h1 r0_0 v0_1 v0_2 v0_3 v2_0 r2_1 r2_2 r2_3 r2_4 v2_5 r2_6 r2_7 r2_8 r1_0 r1_1 v1_2 o_16.1 o_16.2.1 o_16.2.2.1 o_16.2.2.2.1 o_16.2.2.2.2 v3_0 v3_1 r3_2 r3_3 r3_4 r3_5 r3_6 r3_7 r3_8 r3_9 k7 f7 k4 f4 k5 f5 k11 f11 o_63 hqo_63 H.size) (cwV 1 hts gX5_readStatement_X5_readAnswer rfl rfl rfl zhd_X5_readAnswer ⟨Nat.le_of_ble_eq_true rfl, Nat.le_of_ble_eq_true rfl⟩) [0, 2, 1, 3, 7, 4, 5, 11] rfl (of_decide_eq_true rfl) [3, 0, 1, 7] rfl rfl rfl rfl hl.1 rfl (Nat.le_of_ble_eq_true rfl) dX5_readStatement_182 ⟨Nat.le_of_ble_eq_true rfl, Nat.le_of_ble_eq_true rfl⟩ [some 0, some 2, some 1, some 3, some 5, some 6, none, some 4, none, none, none, some 7] (of_decide_eq_true rfl) (of_decide_eq_true rfl) rfl rfl rfl (fun H locs hw_66n hP hD hS => ?_)
        refine lv_istore (lv' := [(4, .int o_63.1), (3, .int v1_7), (0, .ref h0), (1, .ref h1), (2, .int p2)]) hx hb dX5_readStatement_185 hl (of_decide_eq_true rfl) rfl (fun ls hl => ?_)
        exact jp_20 (o_63.1, o_63.2.1, o_63.2.2.1, o_63.2.2.2.1, v2_0, v2_5, o_63.2.2.2.2.1, o_63.2.2.2.2.2.1, o_63.2.2.2.2.2.2.1, o_63.2.2.2.2.2.2.2.1, o_63.2.2.2.2.2.2.2.2.1, v3_0, v3_1, f6, f8, f9, f10, f7, f14, f15, o_63.2.2.2.2.2.2.2.2.2, f17, f16, f12, f13) H locs ls hfn hP hD hS (lv_sub hl [0, 2] rfl)
      have hfn := (if_neg c_62).symm.trans hfn
      have oc_62 := zk_ne rfl (by decide +kernel : (7 : Int32).toInt = 7) c_62
      by_cases c_67 : v1_7 = 8
      · have hfn := (if_pos c_67).symm.trans hfn
        refine W.eq (g2 := F0 m 63 ls [.int 8]) (by rw [c_67]) ?_
        refine lv_tableIn (tgt := 180) (off := 117) hx hb dX5_readStatement_63 (by decide +kernel) (by decide +kernel) (by decide +kernel) (of_decide_eq_true rfl) ?_
        refine lv_aload_n hx hb dX5_readStatement_180 rfl (lv_at hl 1 rfl) ?_
        refine lv_aload_n hx hb dX5_readStatement_181 rfl (lv_at hl 2 rfl) ?_
        obtain ⟨o_68, hqo_68, hfn⟩ := zb_s hfn
        refine zcVb (ci := 5) (rest := []) (pc' := 185) (ws' := [zV5 h0 r0_0 o_68.2.1 o_68.2.2.1 o_68.2.2.2.1, zV10 r0_0 r1_0 r1_1 v1_2 o_68.2.2.2.2.1 o_68.2.2.2.2.2.1 o_68.2.2.2.2.2.2.1 o_68.2.2.2.2.2.2.2.1 o_68.2.2.2.2.2.2.2.2.1, zV9 h1 v2_0 r2_1 r2_2 r2_3 r2_4 v2_5 r2_6 r2_7 r2_8, zV4 r2_6 v3_0 v3_1 r3_2 r3_3 r3_4 r3_5 r3_6 r3_7 r3_8 r3_9, zVi r1_1 k4 1200 f4, zVi r1_0 k5 13 f5, zVi r2_1 k6 4 f6, zVi r3_2 k7 14 f7, zVi r2_2 k8 4 f8, zVi r2_3 k9 4 f9, zVi r2_4 k10 4 f10, zVi r3_5 k11 14 o_68.2.2.2.2.2.2.2.2.2, zVi r3_8 k12 28 f12, zVi r3_9 k13 28 f13, zVi r3_3 k14 14 f14, zVi r3_4 k15 14 f15, zVi r3_7 k16 14 f16, zVi r3_6 k17 14 f17]) hP hK hD hS hA ⟨hx, hb, hml, hown, hts⟩ (zf_X5_readAnswer l dC dI h0 h1 r0_0 v0_1 v0_2 v0_3 v2_0 r2_1 r2_2 r2_3 r2_4 v2_5 r2_6 r2_7 r2_8 r1_0 r1_1 v1_2 o_16.1 o_16.2.1 o_16.2.2.1 o_16.2.2.2.1 o_16.2.2.2.2 v3_0 v3_1 r3_2 r3_3 r3_4 r3_5 r3_6 r3_7 r3_8 r3_9 k7 f7 k4 f4 k5 f5 k11 f11 o_68 hqo_68 H.size) (cwV 1 hts gX5_readStatement_X5_readAnswer rfl rfl rfl zhd_X5_readAnswer ⟨Nat.le_of_ble_eq_true rfl, Nat.le_of_ble_eq_true rfl⟩) [0, 2, 1, 3, 7, 4, 5, 11] rfl (of_decide_eq_true rfl) [3, 0, 1, 7] rfl rfl rfl rfl hl.1 rfl (Nat.le_of_ble_eq_true rfl) dX5_readStatement_182 ⟨Nat.le_of_ble_eq_true rfl, Nat.le_of_ble_eq_true rfl⟩ [some 0, some 2, some 1, some 3, some 5, some 6, none, some 4, none, none, none, some 7] (of_decide_eq_true rfl) (of_decide_eq_true rfl) rfl rfl rfl (fun H locs hw_71n hP hD hS => ?_)
        refine lv_istore (lv' := [(4, .int o_68.1), (3, .int v1_7), (0, .ref h0), (1, .ref h1), (2, .int p2)]) hx hb dX5_readStatement_185 hl (of_decide_eq_true rfl) rfl (fun ls hl => ?_)
        exact jp_20 (o_68.1, o_68.2.1, o_68.2.2.1, o_68.2.2.2.1, v2_0, v2_5, o_68.2.2.2.2.1, o_68.2.2.2.2.2.1, o_68.2.2.2.2.2.2.1, o_68.2.2.2.2.2.2.2.1, o_68.2.2.2.2.2.2.2.2.1, v3_0, v3_1, f6, f8, f9, f10, f7, f14, f15, o_68.2.2.2.2.2.2.2.2.2, f17, f16, f12, f13) H locs ls hfn hP hD hS (lv_sub hl [0, 2] rfl)
      have hfn := (if_neg c_67).symm.trans hfn
      have oc_67 := zk_ne rfl (by decide +kernel : (8 : Int32).toInt = 8) c_67
      by_cases c_72 : v1_7 = 9
      · have hfn := (if_pos c_72).symm.trans hfn
        refine W.eq (g2 := F0 m 63 ls [.int 9]) (by rw [c_72]) ?_
        refine lv_tableIn (tgt := 160) (off := 97) hx hb dX5_readStatement_63 (by decide +kernel) (by decide +kernel) (by decide +kernel) (of_decide_eq_true rfl) ?_
        refine lv_aload_n hx hb dX5_readStatement_160 rfl (lv_at hl 1 rfl) ?_
        refine lv_aload_n hx hb dX5_readStatement_161 rfl (lv_at hl 2 rfl) ?_
        obtain ⟨o_73, hqo_73, hfn⟩ := zb_s hfn
        refine zcVb (ci := 5) (rest := []) (pc' := 165) (ws' := [zV5 h0 r0_0 o_73.2.1 o_73.2.2.1 o_73.2.2.2.1, zV10 r0_0 r1_0 r1_1 v1_2 o_73.2.2.2.2.1 o_73.2.2.2.2.2.1 o_73.2.2.2.2.2.2.1 o_73.2.2.2.2.2.2.2.1 o_73.2.2.2.2.2.2.2.2.1, zV9 h1 v2_0 r2_1 r2_2 r2_3 r2_4 v2_5 r2_6 r2_7 r2_8, zV4 r2_6 v3_0 v3_1 r3_2 r3_3 r3_4 r3_5 r3_6 r3_7 r3_8 r3_9, zVi r1_1 k4 1200 f4, zVi r1_0 k5 13 f5, zVi r2_1 k6 4 f6, zVi r3_2 k7 14 f7, zVi r2_2 k8 4 f8, zVi r2_3 k9 4 f9, zVi r2_4 k10 4 f10, zVi r3_5 k11 14 f11, zVi r3_8 k12 28 f12, zVi r3_9 k13 28 f13, zVi r3_3 k14 14 f14, zVi r3_4 k15 14 o_73.2.2.2.2.2.2.2.2.2, zVi r3_7 k16 14 f16, zVi r3_6 k17 14 f17]) hP hK hD hS hA ⟨hx, hb, hml, hown, hts⟩ (zf_X5_readFixed l dC dI h0 h1 r0_0 v0_1 v0_2 v0_3 v2_0 r2_1 r2_2 r2_3 r2_4 v2_5 r2_6 r2_7 r2_8 r1_0 r1_1 v1_2 o_16.1 o_16.2.1 o_16.2.2.1 o_16.2.2.2.1 o_16.2.2.2.2 v3_0 v3_1 r3_2 r3_3 r3_4 r3_5 r3_6 r3_7 r3_8 r3_9 k7 f7 k4 f4 k5 f5 k6 f6 k15 f15 o_73 hqo_73 H.size) (cwV 1 hts gX5_readStatement_X5_readFixed rfl rfl rfl zhd_X5_readFixed ⟨Nat.le_of_ble_eq_true rfl, Nat.le_of_ble_eq_true rfl⟩) [0, 2, 1, 3, 7, 4, 5, 6, 15] rfl (of_decide_eq_true rfl) [3, 0, 1, 2, 11] rfl rfl rfl rfl hl.1 rfl (Nat.le_of_ble_eq_true rfl) dX5_readStatement_162 ⟨Nat.le_of_ble_eq_true rfl, Nat.le_of_ble_eq_true rfl⟩ [some 0, some 2, some 1, some 3, some 5, some 6, some 7, some 4, none, none, none, none, none, none, none, some 8] (of_decide_eq_true rfl) (of_decide_eq_true rfl) rfl rfl rfl (fun H locs hw_76n hP hD hS => ?_)
        refine lv_istore (lv' := [(4, .int o_73.1), (3, .int v1_7), (0, .ref h0), (1, .ref h1), (2, .int p2)]) hx hb dX5_readStatement_165 hl (of_decide_eq_true rfl) rfl (fun ls hl => ?_)
        refine lv_goto (tgt := 187) hx hb dX5_readStatement_167 (of_decide_eq_true rfl) ?_
        exact jp_20 (o_73.1, o_73.2.1, o_73.2.2.1, o_73.2.2.2.1, v2_0, v2_5, o_73.2.2.2.2.1, o_73.2.2.2.2.2.1, o_73.2.2.2.2.2.2.1, o_73.2.2.2.2.2.2.2.1, o_73.2.2.2.2.2.2.2.2.1, v3_0, v3_1, f6, f8, f9, f10, f7, f14, o_73.2.2.2.2.2.2.2.2.2, f11, f17, f16, f12, f13) H locs ls hfn hP hD hS (lv_sub hl [0, 2] rfl)
      have hfn := (if_neg c_72).symm.trans hfn
      have oc_72 := zk_ne rfl (by decide +kernel : (9 : Int32).toInt = 9) c_72
      by_cases c_77 : v1_7 = 10
      · have hfn := (if_pos c_77).symm.trans hfn
        refine W.eq (g2 := F0 m 63 ls [.int 10]) (by rw [c_77]) ?_
        refine lv_tableIn (tgt := 170) (off := 107) hx hb dX5_readStatement_63 (by decide +kernel) (by decide +kernel) (by decide +kernel) (of_decide_eq_true rfl) ?_
        refine lv_aload_n hx hb dX5_readStatement_170 rfl (lv_at hl 1 rfl) ?_
        refine lv_aload_n hx hb dX5_readStatement_171 rfl (lv_at hl 2 rfl) ?_
        obtain ⟨o_78, hqo_78, hfn⟩ := zb_s hfn
        refine zcVb (ci := 5) (rest := []) (pc' := 175) (ws' := [zV5 h0 r0_0 o_78.2.1 o_78.2.2.1 o_78.2.2.2.1, zV10 r0_0 r1_0 r1_1 v1_2 o_78.2.2.2.2.1 o_78.2.2.2.2.2.1 o_78.2.2.2.2.2.2.1 o_78.2.2.2.2.2.2.2.1 o_78.2.2.2.2.2.2.2.2.1, zV9 h1 v2_0 r2_1 r2_2 r2_3 r2_4 v2_5 r2_6 r2_7 r2_8, zV4 r2_6 v3_0 v3_1 r3_2 r3_3 r3_4 r3_5 r3_6 r3_7 r3_8 r3_9, zVi r1_1 k4 1200 f4, zVi r1_0 k5 13 f5, zVi r2_1 k6 4 f6, zVi r3_2 k7 14 f7, zVi r2_2 k8 4 f8, zVi r2_3 k9 4 f9, zVi r2_4 k10 4 f10, zVi r3_5 k11 14 f11, zVi r3_8 k12 28 f12, zVi r3_9 k13 28 f13, zVi r3_3 k14 14 f14, zVi r3_4 k15 14 f15, zVi r3_7 k16 14 o_78.2.2.2.2.2.2.2.2.2, zVi r3_6 k17 14 f17]) hP hK hD hS hA ⟨hx, hb, hml, hown, hts⟩ (zf_X5_readGroup l dC dI h0 h1 r0_0 v0_1 v0_2 v0_3 v2_0 r2_1 r2_2 r2_3 r2_4 v2_5 r2_6 r2_7 r2_8 r1_0 r1_1 v1_2 o_16.1 o_16.2.1 o_16.2.2.1 o_16.2.2.2.1 o_16.2.2.2.2 v3_0 v3_1 r3_2 r3_3 r3_4 r3_5 r3_6 r3_7 r3_8 r3_9 k7 f7 k4 f4 k5 f5 k16 f16 o_78 hqo_78 H.size) (cwV 1 hts gX5_readStatement_X5_readGroup rfl rfl rfl zhd_X5_readGroup ⟨Nat.le_of_ble_eq_true rfl, Nat.le_of_ble_eq_true rfl⟩) [0, 2, 1, 3, 7, 4, 5, 16] rfl (of_decide_eq_true rfl) [3, 0, 1, 12] rfl rfl rfl rfl hl.1 rfl (Nat.le_of_ble_eq_true rfl) dX5_readStatement_172 ⟨Nat.le_of_ble_eq_true rfl, Nat.le_of_ble_eq_true rfl⟩ [some 0, some 2, some 1, some 3, some 5, some 6, none, some 4, none, none, none, none, none, none, none, none, some 7] (of_decide_eq_true rfl) (of_decide_eq_true rfl) rfl rfl rfl (fun H locs hw_81n hP hD hS => ?_)
        refine lv_istore (lv' := [(4, .int o_78.1), (3, .int v1_7), (0, .ref h0), (1, .ref h1), (2, .int p2)]) hx hb dX5_readStatement_175 hl (of_decide_eq_true rfl) rfl (fun ls hl => ?_)
        refine lv_goto (tgt := 187) hx hb dX5_readStatement_177 (of_decide_eq_true rfl) ?_
        exact jp_20 (o_78.1, o_78.2.1, o_78.2.2.1, o_78.2.2.2.1, v2_0, v2_5, o_78.2.2.2.2.1, o_78.2.2.2.2.2.1, o_78.2.2.2.2.2.2.1, o_78.2.2.2.2.2.2.2.1, o_78.2.2.2.2.2.2.2.2.1, v3_0, v3_1, f6, f8, f9, f10, f7, f14, f15, f11, f17, o_78.2.2.2.2.2.2.2.2.2, f12, f13) H locs ls hfn hP hD hS (lv_sub hl [0, 2] rfl)
      have hfn := (if_neg c_77).symm.trans hfn
      have oc_77 := zk_ne rfl (by decide +kernel : (10 : Int32).toInt = 10) c_77
      refine lv_tableOut (tgt := 180) hx hb dX5_readStatement_63 (by omega) (of_decide_eq_true rfl) ?_
      refine lv_aload_n hx hb dX5_readStatement_180 rfl (lv_at hl 1 rfl) ?_
      refine lv_aload_n hx hb dX5_readStatement_181 rfl (lv_at hl 2 rfl) ?_
      obtain ⟨o_82, hqo_82, hfn⟩ := zb_s hfn
      refine zcVb (ci := 5) (rest := []) (pc' := 185) (ws' := [zV5 h0 r0_0 o_82.2.1 o_82.2.2.1 o_82.2.2.2.1, zV10 r0_0 r1_0 r1_1 v1_2 o_82.2.2.2.2.1 o_82.2.2.2.2.2.1 o_82.2.2.2.2.2.2.1 o_82.2.2.2.2.2.2.2.1 o_82.2.2.2.2.2.2.2.2.1, zV9 h1 v2_0 r2_1 r2_2 r2_3 r2_4 v2_5 r2_6 r2_7 r2_8, zV4 r2_6 v3_0 v3_1 r3_2 r3_3 r3_4 r3_5 r3_6 r3_7 r3_8 r3_9, zVi r1_1 k4 1200 f4, zVi r1_0 k5 13 f5, zVi r2_1 k6 4 f6, zVi r3_2 k7 14 f7, zVi r2_2 k8 4 f8, zVi r2_3 k9 4 f9, zVi r2_4 k10 4 f10, zVi r3_5 k11 14 o_82.2.2.2.2.2.2.2.2.2, zVi r3_8 k12 28 f12, zVi r3_9 k13 28 f13, zVi r3_3 k14 14 f14, zVi r3_4 k15 14 f15, zVi r3_7 k16 14 f16, zVi r3_6 k17 14 f17]) hP hK hD hS hA ⟨hx, hb, hml, hown, hts⟩ (zf_X5_readAnswer l dC dI h0 h1 r0_0 v0_1 v0_2 v0_3 v2_0 r2_1 r2_2 r2_3 r2_4 v2_5 r2_6 r2_7 r2_8 r1_0 r1_1 v1_2 o_16.1 o_16.2.1 o_16.2.2.1 o_16.2.2.2.1 o_16.2.2.2.2 v3_0 v3_1 r3_2 r3_3 r3_4 r3_5 r3_6 r3_7 r3_8 r3_9 k7 f7 k4 f4 k5 f5 k11 f11 o_82 hqo_82 H.size) (cwV 1 hts gX5_readStatement_X5_readAnswer rfl rfl rfl zhd_X5_readAnswer ⟨Nat.le_of_ble_eq_true rfl, Nat.le_of_ble_eq_true rfl⟩) [0, 2, 1, 3, 7, 4, 5, 11] rfl (of_decide_eq_true rfl) [3, 0, 1, 7] rfl rfl rfl rfl hl.1 rfl (Nat.le_of_ble_eq_true rfl) dX5_readStatement_182 ⟨Nat.le_of_ble_eq_true rfl, Nat.le_of_ble_eq_true rfl⟩ [some 0, some 2, some 1, some 3, some 5, some 6, none, some 4, none, none, none, some 7] (of_decide_eq_true rfl) (of_decide_eq_true rfl) rfl rfl rfl (fun H locs hw_85n hP hD hS => ?_)
      refine lv_istore (lv' := [(4, .int o_82.1), (3, .int v1_7), (0, .ref h0), (1, .ref h1), (2, .int p2)]) hx hb dX5_readStatement_185 hl (of_decide_eq_true rfl) rfl (fun ls hl => ?_)
      exact jp_20 (o_82.1, o_82.2.1, o_82.2.2.1, o_82.2.2.2.1, v2_0, v2_5, o_82.2.2.2.2.1, o_82.2.2.2.2.2.1, o_82.2.2.2.2.2.2.1, o_82.2.2.2.2.2.2.2.1, o_82.2.2.2.2.2.2.2.2.1, v3_0, v3_1, f6, f8, f9, f10, f7, f14, f15, o_82.2.2.2.2.2.2.2.2.2, f17, f16, f12, f13) H locs ls hfn hP hD hS (lv_sub hl [0, 2] rfl)
    have hfn := (if_neg c_15).symm.trans hfn
    refine lv_aload_n hx hb dX5_readStatement_42 rfl (lv_at hl 1 rfl) ?_
    refine lv_iconst (v := 4) hx hb dX5_readStatement_43 zci_4 ?_
    refine lv_aload_n hx hb dX5_readStatement_44 rfl (lv_at hl 1 rfl) ?_
    refine va_get (D := (dC, dI)) (ci := 5) (v := .ref r0_0) (C := RX5) (T := TX5) (N := 4) hx hb hts zn_X5_readStatement_X5 hown hK hP 0 rfl rfl 0 (of_decide_eq_true rfl) (hts (.fieldLink RX5 12 "ShortEnough$Parser" "words" "LShortEnough$Words;") zw_X5_readStatement_412) (fun _ h9 => h9) rfl dX5_readStatement_45 ?_
    refine va_get (D := (dC, dI)) (ci := 10) (v := .int v1_5) (C := RX10) (T := TX10) (N := 8) hx hb hts zn_X5_readStatement_X10 hown hK hP 1 rfl rfl 5 (of_decide_eq_true rfl) (hts (.fieldLink RX5 64 "ShortEnough$Words" "start" "I") zw_X5_readStatement_415) (fun _ h9 => h9) rfl dX5_readStatement_48 ?_
    obtain ⟨o_86, hqo_86, hfn⟩ := zb_s hfn
    refine zcVb (ci := 5) (rest := []) (pc' := 54) (ws' := [zV5 h0 r0_0 v0_1 o_86.2.1 o_86.2.2, zV10 r0_0 r1_0 r1_1 v1_2 v1_3 v1_4 v1_5 v1_6 v1_7, zV9 h1 v2_0 r2_1 r2_2 r2_3 r2_4 v2_5 r2_6 r2_7 r2_8, zV4 r2_6 v3_0 v3_1 r3_2 r3_3 r3_4 r3_5 r3_6 r3_7 r3_8 r3_9, zVi r1_1 k4 1200 f4, zVi r1_0 k5 13 f5, zVi r2_1 k6 4 f6, zVi r3_2 k7 14 f7, zVi r2_2 k8 4 f8, zVi r2_3 k9 4 f9, zVi r2_4 k10 4 f10, zVi r3_5 k11 14 f11, zVi r3_8 k12 28 f12, zVi r3_9 k13 28 f13, zVi r3_3 k14 14 f14, zVi r3_4 k15 14 f15, zVi r3_7 k16 14 f16, zVi r3_6 k17 14 f17]) hP hK hD hS hA ⟨hx, hb, hml, hown, hts⟩ (zf_X5_stopAt l dC dI h0 4 v1_5 r0_0 v0_1 v0_2 v0_3 o_86 hqo_86 H.size) (cwV 2 hts gX5_readStatement_X5_stopAt rfl rfl rfl zhd_X5_stopAt ⟨Nat.le_of_ble_eq_true rfl, Nat.le_of_ble_eq_true rfl⟩) [0] rfl (of_decide_eq_true rfl) [] rfl rfl rfl rfl hl.1 rfl (Nat.le_of_ble_eq_true rfl) dX5_readStatement_51 ⟨Nat.le_of_ble_eq_true rfl, Nat.le_of_ble_eq_true rfl⟩ [some 0] (of_decide_eq_true rfl) (of_decide_eq_true rfl) rfl rfl rfl (fun H locs hw_89n hP hD hS => ?_)
    have ho := Option.some.inj hfn
    subst ho
    exact zrz hx hb hr hw_89n hK hP hD hS hQ ⟨rfl, hw_89n⟩ hlocks dX5_readStatement_54
  have hfn := (if_pos c_5).symm.trans hfn
  refine lv_aload_n hx hb dX5_readStatement_15 rfl (lv_at hl 1 rfl) ?_
  refine lv_iconst (v := 1) hx hb dX5_readStatement_16 zci_1 ?_
  refine lv_aload_n hx hb dX5_readStatement_17 rfl (lv_at hl 1 rfl) ?_
  refine va_get (D := (dC, dI)) (ci := 5) (v := .ref r0_0) (C := RX5) (T := TX5) (N := 4) hx hb hts zn_X5_readStatement_X5 hown hK hP 0 rfl rfl 0 (of_decide_eq_true rfl) (hts (.fieldLink RX5 12 "ShortEnough$Parser" "words" "LShortEnough$Words;") zw_X5_readStatement_412) (fun _ h9 => h9) rfl dX5_readStatement_18 ?_
  refine va_get (D := (dC, dI)) (ci := 10) (v := .int v1_5) (C := RX10) (T := TX10) (N := 8) hx hb hts zn_X5_readStatement_X10 hown hK hP 1 rfl rfl 5 (of_decide_eq_true rfl) (hts (.fieldLink RX5 64 "ShortEnough$Words" "start" "I") zw_X5_readStatement_415) (fun _ h9 => h9) rfl dX5_readStatement_21 ?_
  obtain ⟨o_90, hqo_90, hfn⟩ := zb_s hfn
  refine zcVb (ci := 5) (rest := []) (pc' := 27) (ws' := [zV5 h0 r0_0 v0_1 o_90.2.1 o_90.2.2, zV10 r0_0 r1_0 r1_1 v1_2 v1_3 v1_4 v1_5 v1_6 v1_7, zV9 h1 v2_0 r2_1 r2_2 r2_3 r2_4 v2_5 r2_6 r2_7 r2_8, zV4 r2_6 v3_0 v3_1 r3_2 r3_3 r3_4 r3_5 r3_6 r3_7 r3_8 r3_9, zVi r1_1 k4 1200 f4, zVi r1_0 k5 13 f5, zVi r2_1 k6 4 f6, zVi r3_2 k7 14 f7, zVi r2_2 k8 4 f8, zVi r2_3 k9 4 f9, zVi r2_4 k10 4 f10, zVi r3_5 k11 14 f11, zVi r3_8 k12 28 f12, zVi r3_9 k13 28 f13, zVi r3_3 k14 14 f14, zVi r3_4 k15 14 f15, zVi r3_7 k16 14 f16, zVi r3_6 k17 14 f17]) hP hK hD hS hA ⟨hx, hb, hml, hown, hts⟩ (zf_X5_stopAt l dC dI h0 1 v1_5 r0_0 v0_1 v0_2 v0_3 o_90 hqo_90 H.size) (cwV 2 hts gX5_readStatement_X5_stopAt rfl rfl rfl zhd_X5_stopAt ⟨Nat.le_of_ble_eq_true rfl, Nat.le_of_ble_eq_true rfl⟩) [0] rfl (of_decide_eq_true rfl) [] rfl rfl rfl rfl hl.1 rfl (Nat.le_of_ble_eq_true rfl) dX5_readStatement_24 ⟨Nat.le_of_ble_eq_true rfl, Nat.le_of_ble_eq_true rfl⟩ [some 0] (of_decide_eq_true rfl) (of_decide_eq_true rfl) rfl rfl rfl (fun H locs hw_93n hP hD hS => ?_)
  have ho := Option.some.inj hfn
  subst ho
  exact zrz hx hb hr hw_93n hK hP hD hS hQ ⟨rfl, hw_93n⟩ hlocks dX5_readStatement_27
theorem zn_X5_read_X5 : ∀ w ∈ wsX50, w ∈ wsX5_read := fun _ h => List.mem_cons_of_mem _ (List.mem_append_left _ (List.mem_append_left _ (List.mem_append_left _ (List.mem_append_right _ h))))
theorem zw_X5_read_374 : Cond.fieldLink RX5 22 "ShortEnough$Parser" "faultKind" "I" ∈ wsX5_read := List.mem_of_getElem? (i := 1) (by decide +kernel)
theorem zw_X5_read_375 : Cond.fieldLink RX5 18 "ShortEnough$Parser" "faultPlace" "I" ∈ wsX5_read := List.mem_of_getElem? (i := 2) (by decide +kernel)
theorem zw_X5_read_383 : Cond.fieldLink RX5 12 "ShortEnough$Parser" "words" "LShortEnough$Words;" ∈ wsX5_read := List.mem_of_getElem? (i := 3) (by decide +kernel)
theorem zn_X5_read_X10 : ∀ w ∈ wsX100, w ∈ wsX5_read := fun _ h => List.mem_cons_of_mem _ (List.mem_append_left _ (List.mem_append_left _ (List.mem_append_right _ h)))
theorem zw_X5_read_410 : Cond.fieldLink RX5 34 "ShortEnough$Words" "kind" "I" ∈ wsX5_read := List.mem_of_getElem? (i := 4) (by decide +kernel)
theorem zn_X5_read_X9 : ∀ w ∈ wsX90, w ∈ wsX5_read := fun _ h => List.mem_cons_of_mem _ (List.mem_append_left _ (List.mem_append_right _ h))
theorem zw_X5_read_527 : Cond.fieldLink RX5 41 "ShortEnough$Task" "formats" "I" ∈ wsX5_read := List.mem_of_getElem? (i := 5) (by decide +kernel)
theorem zw_X5_read_528 : Cond.fieldLink RX5 44 "ShortEnough$Task" "numbers" "LShortEnough$Numbers;" ∈ wsX5_read := List.mem_of_getElem? (i := 6) (by decide +kernel)
theorem zn_X5_read_X4 : ∀ w ∈ wsX40, w ∈ wsX5_read := fun _ h => List.mem_cons_of_mem _ (List.mem_append_right _ h)
theorem zw_X5_read_530 : Cond.fieldLink RX5 48 "ShortEnough$Numbers" "count" "I" ∈ wsX5_read := List.mem_of_getElem? (i := 7) (by decide +kernel)
set_option maxHeartbeats 4000000 in
set_option maxRecDepth 100000 in
theorem zf_X5_read (l : Launch) (dC : Nat → ClassId) (dI : Nat → Nat → Nat) (h0 : Nat) (h1 : Nat) (p2 : Int32) (h3 : Nat) (r0_0 : Nat) (v0_1 : Int32) (v0_2 : Int32) (v0_3 : Int32) (v1_0 : Int32) (r1_1 : Nat) (r1_2 : Nat) (r1_3 : Nat) (r1_4 : Nat) (v1_5 : Int32) (r1_6 : Nat) (r1_7 : Nat) (r1_8 : Nat) (v2_0 : Int32) (v2_1 : Int32) (r2_2 : Nat) (r2_3 : Nat) (r2_4 : Nat) (r2_5 : Nat) (r2_6 : Nat) (r2_7 : Nat) (r2_8 : Nat) (r2_9 : Nat) (r3_0 : Nat) (r3_1 : Nat) (v3_2 : Int32) (v3_3 : Int32) (v3_4 : Int32) (v3_5 : Int32) (v3_6 : Int32) (v3_7 : Int32) (k4 : Nat) (f4 : Nat → Int32) (k5 : Nat) (f5 : Nat → Int32) (k6 : Nat) (f6 : Nat → Int32) (k7 : Nat) (f7 : Nat → Int32) (k8 : Nat) (f8 : Nat → Int32) (k9 : Nat) (f9 : Nat → Int32) (k10 : Nat) (f10 : Nat → Int32) (k11 : Nat) (f11 : Nat → Int32) (k12 : Nat) (f12 : Nat → Int32) (k13 : Nat) (f13 : Nat → Int32) (k14 : Nat) (f14 : Nat → Int32) (k15 : Nat) (f15 : Nat → Int32) (k16 : Nat) (f16 : Nat → Int32) (k17 : Nat) (f17 : Nat → Int32) (o : Int32 × Int32 × Int32 × Int32 × Int32 × Int32 × Int32 × Int32 × Int32 × Int32 × Int32 × Int32 × Int32 × Int32 × (Nat → Int32) × (Nat → Int32) × (Nat → Int32) × (Nat → Int32) × (Nat → Int32) × (Nat → Int32) × (Nat → Int32) × (Nat → Int32) × (Nat → Int32) × (Nat → Int32) × (Nat → Int32) × (Nat → Int32)) (hfn : fn_X5_read p2 v0_1 f4 f5 f6 f7 f8 f9 f10 f11 f12 f13 f14 f15 f16 f17 = some o) (sz : Nat) : zMi l yX5_read wsX5_read ({ frames := 6, cells := 0, slots := 0, locals := 142 }) (dC, dI) vwCl [.ref h0, .ref h1, .int p2, .ref h3] [zV5 h0 r0_0 v0_1 v0_2 v0_3, zV9 h3 v1_0 r1_1 r1_2 r1_3 r1_4 v1_5 r1_6 r1_7 r1_8, zV4 r1_6 v2_0 v2_1 r2_2 r2_3 r2_4 r2_5 r2_6 r2_7 r2_8 r2_9, zV10 r0_0 r3_0 r3_1 v3_2 v3_3 v3_4 v3_5 v3_6 v3_7, zVi h1 k4 1200 f4, zVi r3_0 k5 13 f5, zVi r1_1 k6 4 f6, zVi r2_2 k7 14 f7, zVi r1_2 k8 4 f8, zVi r1_3 k9 4 f9, zVi r1_4 k10 4 f10, zVi r2_5 k11 14 f11, zVi r2_8 k12 28 f12, zVi r2_9 k13 28 f13, zVi r2_3 k14 14 f14, zVi r2_4 k15 14 f15, zVi r2_7 k16 14 f16, zVi r2_6 k17 14 f17] [(k4, .byte), (k5, .int), (k6, .int), (k7, .int), (k8, .int), (k9, .int), (k10, .int), (k11, .int), (k12, .int), (k13, .int), (k14, .int), (k15, .int), (k16, .int), (k17, .int)] (fun r _ => r = o.1 ∧ narrow .boolean (.int o.1) = .int o.1) [zV5 h0 r0_0 o.2.1 o.2.2.1 o.2.2.2.1, zV9 h3 o.2.2.2.2.1 r1_1 r1_2 r1_3 r1_4 o.2.2.2.2.2.1 r1_6 r1_7 r1_8, zV4 r1_6 o.2.2.2.2.2.2.1 o.2.2.2.2.2.2.2.1 r2_2 r2_3 r2_4 r2_5 r2_6 r2_7 r2_8 r2_9, zV10 r0_0 r3_0 h1 o.2.2.2.2.2.2.2.2.1 o.2.2.2.2.2.2.2.2.2.1 o.2.2.2.2.2.2.2.2.2.2.1 o.2.2.2.2.2.2.2.2.2.2.2.1 o.2.2.2.2.2.2.2.2.2.2.2.2.1 o.2.2.2.2.2.2.2.2.2.2.2.2.2.1, zVi h1 k4 1200 f4, zVi r3_0 k5 13 f5, zVi r1_1 k6 4 o.2.2.2.2.2.2.2.2.2.2.2.2.2.2.1, zVi r2_2 k7 14 o.2.2.2.2.2.2.2.2.2.2.2.2.2.2.2.1, zVi r1_2 k8 4 o.2.2.2.2.2.2.2.2.2.2.2.2.2.2.2.2.1, zVi r1_3 k9 4 o.2.2.2.2.2.2.2.2.2.2.2.2.2.2.2.2.2.1, zVi r1_4 k10 4 o.2.2.2.2.2.2.2.2.2.2.2.2.2.2.2.2.2.2.1, zVi r2_5 k11 14 o.2.2.2.2.2.2.2.2.2.2.2.2.2.2.2.2.2.2.2.1, zVi r2_8 k12 28 o.2.2.2.2.2.2.2.2.2.2.2.2.2.2.2.2.2.2.2.2.1, zVi r2_9 k13 28 o.2.2.2.2.2.2.2.2.2.2.2.2.2.2.2.2.2.2.2.2.2.1, zVi r2_3 k14 14 o.2.2.2.2.2.2.2.2.2.2.2.2.2.2.2.2.2.2.2.2.2.2.1, zVi r2_4 k15 14 o.2.2.2.2.2.2.2.2.2.2.2.2.2.2.2.2.2.2.2.2.2.2.2.1, zVi r2_7 k16 14 o.2.2.2.2.2.2.2.2.2.2.2.2.2.2.2.2.2.2.2.2.2.2.2.2.1, zVi r2_6 k17 14 o.2.2.2.2.2.2.2.2.2.2.2.2.2.2.2.2.2.2.2.2.2.2.2.2.2] [(k4, .byte), (k5, .int), (k6, .int), (k7, .int), (k8, .int), (k9, .int), (k10, .int), (k11, .int), (k12, .int), (k13, .int), (k14, .int), (k15, .int), (k16, .int), (k17, .int)] sz := by
  refine zgoi (cc := cX5_read) (maxL := 5) (ret := (some .boolean)) (C0 := RX5) (lv0 := [(0, .ref h0), (1, .ref h1), (2, .int p2), (3, .ref h3)]) zpl_X5 rfl rfl rfl (Nat.le_of_ble_eq_true rfl) ?_
  intro p e s m below meth c A ls Q hx hb hr hts hown hlocks hml hP hK hD hA hS hl hQ
  unfold fn_X5_read at hfn
  refine lv_aload_n hx hb dX5_read_0 rfl (lv_at hl 0 rfl) ?_
  refine lv_iconst (v := 0) hx hb dX5_read_1 zci_0 ?_
  refine va_put (D := (dC, dI)) (ci := 5) (v := .int 0) (ty := .int) (C := RX5) (T := TX5) (N := 4) hx hb hts zn_X5_read_X5 tyX5 tyX5_ok nmX5 hown hK hP hD hS 0 rfl rfl 2 (of_decide_eq_true rfl) (hts (.fieldLink RX5 22 "ShortEnough$Parser" "faultKind" "I") zw_X5_read_374) (fun _ h9 => h9) rfl (tyX5_ok 2 (of_decide_eq_true rfl)) rfl rfl (Nat.le_of_ble_eq_true rfl) dX5_read_2 (fun H locs hP hD hS => ?_)
  have hP : va_P (dC, dI) vwCl [zV5 h0 r0_0 v0_1 0 v0_3, zV9 h3 v1_0 r1_1 r1_2 r1_3 r1_4 v1_5 r1_6 r1_7 r1_8, zV4 r1_6 v2_0 v2_1 r2_2 r2_3 r2_4 r2_5 r2_6 r2_7 r2_8 r2_9, zV10 r0_0 r3_0 r3_1 v3_2 v3_3 v3_4 v3_5 v3_6 v3_7, zVi h1 k4 1200 f4, zVi r3_0 k5 13 f5, zVi r1_1 k6 4 f6, zVi r2_2 k7 14 f7, zVi r1_2 k8 4 f8, zVi r1_3 k9 4 f9, zVi r1_4 k10 4 f10, zVi r2_5 k11 14 f11, zVi r2_8 k12 28 f12, zVi r2_9 k13 28 f13, zVi r2_3 k14 14 f14, zVi r2_4 k15 14 f15, zVi r2_7 k16 14 f16, zVi r2_6 k17 14 f17] H := hP
  have hD := zDW hD hP rfl
  refine lv_aload_n hx hb dX5_read_5 rfl (lv_at hl 0 rfl) ?_
  refine lv_iconst (v := (-1)) hx hb dX5_read_6 zci_m1 ?_
  refine va_put (D := (dC, dI)) (ci := 5) (v := .int (-1)) (ty := .int) (C := RX5) (T := TX5) (N := 4) hx hb hts zn_X5_read_X5 tyX5 tyX5_ok nmX5 hown hK hP hD hS 0 rfl rfl 3 (of_decide_eq_true rfl) (hts (.fieldLink RX5 18 "ShortEnough$Parser" "faultPlace" "I") zw_X5_read_375) (fun _ h9 => h9) rfl (tyX5_ok 3 (of_decide_eq_true rfl)) rfl rfl (Nat.le_of_ble_eq_true rfl) dX5_read_7 (fun H locs hP hD hS => ?_)
  have hP : va_P (dC, dI) vwCl [zV5 h0 r0_0 v0_1 0 (-1), zV9 h3 v1_0 r1_1 r1_2 r1_3 r1_4 v1_5 r1_6 r1_7 r1_8, zV4 r1_6 v2_0 v2_1 r2_2 r2_3 r2_4 r2_5 r2_6 r2_7 r2_8 r2_9, zV10 r0_0 r3_0 r3_1 v3_2 v3_3 v3_4 v3_5 v3_6 v3_7, zVi h1 k4 1200 f4, zVi r3_0 k5 13 f5, zVi r1_1 k6 4 f6, zVi r2_2 k7 14 f7, zVi r1_2 k8 4 f8, zVi r1_3 k9 4 f9, zVi r1_4 k10 4 f10, zVi r2_5 k11 14 f11, zVi r2_8 k12 28 f12, zVi r2_9 k13 28 f13, zVi r2_3 k14 14 f14, zVi r2_4 k15 14 f15, zVi r2_7 k16 14 f16, zVi r2_6 k17 14 f17] H := hP
  have hD := zDW hD hP rfl
  refine lv_aload_n hx hb dX5_read_10 rfl (lv_at hl 3 rfl) ?_
  obtain ⟨o_1, hqo_1, hfn⟩ := zb_s hfn
  refine zcVv (ci := 9) (rest := []) (pc' := 14) (ws' := [zV5 h0 r0_0 v0_1 0 (-1), zV9 h3 o_1.1 r1_1 r1_2 r1_3 r1_4 o_1.2.1 r1_6 r1_7 r1_8, zV4 r1_6 o_1.2.2.1 o_1.2.2.2 r2_2 r2_3 r2_4 r2_5 r2_6 r2_7 r2_8 r2_9, zV10 r0_0 r3_0 r3_1 v3_2 v3_3 v3_4 v3_5 v3_6 v3_7, zVi h1 k4 1200 f4, zVi r3_0 k5 13 f5, zVi r1_1 k6 4 f6, zVi r2_2 k7 14 f7, zVi r1_2 k8 4 f8, zVi r1_3 k9 4 f9, zVi r1_4 k10 4 f10, zVi r2_5 k11 14 f11, zVi r2_8 k12 28 f12, zVi r2_9 k13 28 f13, zVi r2_3 k14 14 f14, zVi r2_4 k15 14 f15, zVi r2_7 k16 14 f16, zVi r2_6 k17 14 f17]) hP hK hD hS hA ⟨hx, hb, hml, hown, hts⟩ (zf_X9_clear l dC dI h3 v1_0 r1_1 r1_2 r1_3 r1_4 v1_5 r1_6 r1_7 r1_8 v2_0 v2_1 r2_2 r2_3 r2_4 r2_5 r2_6 r2_7 r2_8 r2_9 o_1 hqo_1 H.size) (cwV 0 hts gX5_read_X9_clear rfl rfl rfl zhd_X9_clear ⟨Nat.le_of_ble_eq_true rfl, Nat.le_of_ble_eq_true rfl⟩) [1, 2] rfl (of_decide_eq_true rfl) [] rfl rfl rfl rfl hl.1 rfl (Nat.le_of_ble_eq_true rfl) dX5_read_11 ⟨Nat.le_of_ble_eq_true rfl, Nat.le_of_ble_eq_true rfl⟩ [none, some 0, some 1] (of_decide_eq_true rfl) (of_decide_eq_true rfl) rfl rfl rfl (fun H locs hP hD hS => ?_)
  refine lv_aload_n hx hb dX5_read_14 rfl (lv_at hl 0 rfl) ?_
  refine va_get (D := (dC, dI)) (ci := 5) (v := .ref r0_0) (C := RX5) (T := TX5) (N := 4) hx hb hts zn_X5_read_X5 hown hK hP 0 rfl rfl 0 (of_decide_eq_true rfl) (hts (.fieldLink RX5 12 "ShortEnough$Parser" "words" "LShortEnough$Words;") zw_X5_read_383) (fun _ h9 => h9) rfl dX5_read_15 ?_
  refine lv_aload_n hx hb dX5_read_18 rfl (lv_at hl 1 rfl) ?_
  refine lv_iload_n hx hb dX5_read_19 rfl (lv_at hl 2 rfl) ?_
  obtain ⟨o_5, hqo_5, hfn⟩ := zb_s hfn
  refine zcVv (ci := 10) (rest := []) (pc' := 23) (ws' := [zV5 h0 r0_0 v0_1 0 (-1), zV9 h3 o_1.1 r1_1 r1_2 r1_3 r1_4 o_1.2.1 r1_6 r1_7 r1_8, zV4 r1_6 o_1.2.2.1 o_1.2.2.2 r2_2 r2_3 r2_4 r2_5 r2_6 r2_7 r2_8 r2_9, zV10 r0_0 r3_0 h1 o_5.1 o_5.2.1 o_5.2.2.1 o_5.2.2.2.1 o_5.2.2.2.2.1 o_5.2.2.2.2.2, zVi h1 k4 1200 f4, zVi r3_0 k5 13 f5, zVi r1_1 k6 4 f6, zVi r2_2 k7 14 f7, zVi r1_2 k8 4 f8, zVi r1_3 k9 4 f9, zVi r1_4 k10 4 f10, zVi r2_5 k11 14 f11, zVi r2_8 k12 28 f12, zVi r2_9 k13 28 f13, zVi r2_3 k14 14 f14, zVi r2_4 k15 14 f15, zVi r2_7 k16 14 f16, zVi r2_6 k17 14 f17]) hP hK hD hS hA ⟨hx, hb, hml, hown, hts⟩ (zf_X10_open l dC dI r0_0 h1 p2 r3_0 r3_1 v3_2 v3_3 v3_4 v3_5 v3_6 v3_7 k4 f4 k5 f5 o_5 hqo_5 H.size) (cwV 2 hts gX5_read_X10_open rfl rfl rfl zhd_X10_open ⟨Nat.le_of_ble_eq_true rfl, Nat.le_of_ble_eq_true rfl⟩) [3, 4, 5] rfl (of_decide_eq_true rfl) [0, 1] rfl rfl rfl rfl hl.1 rfl (Nat.le_of_ble_eq_true rfl) dX5_read_20 ⟨Nat.le_of_ble_eq_true rfl, Nat.le_of_ble_eq_true rfl⟩ [none, none, none, some 0, some 1, some 2] (of_decide_eq_true rfl) (of_decide_eq_true rfl) rfl rfl rfl (fun H locs hP hD hS => ?_)
  refine lv_iconst (v := 0) hx hb dX5_read_23 zci_0 ?_
  refine lv_istore (lv' := [(4, .int 0), (0, .ref h0), (1, .ref h1), (2, .int p2), (3, .ref h3)]) hx hb dX5_read_24 hl (of_decide_eq_true rfl) rfl (fun ls hl => ?_)
  obtain ⟨bd_9, ebd_9, hfn⟩ := zl_g hfn
  have lp_9 : ∀ (n : Nat) (s_9 : Int32 × Int32 × Int32 × Int32 × Int32 × Int32 × Int32 × Int32 × Int32 × Int32 × Int32 × Int32 × Int32 × (Nat → Int32) × (Nat → Int32) × (Nat → Int32) × (Nat → Int32) × (Nat → Int32) × (Nat → Int32) × (Nat → Int32) × (Nat → Int32) × (Nat → Int32) × (Nat → Int32) × (Nat → Int32) × (Nat → Int32)) (H : Heap) (locs : List Loc) (ls : Array Slot), zl bd_9 n s_9 = some o → va_P (dC, dI) vwCl [zV5 h0 r0_0 s_9.2.1 s_9.2.2.1 s_9.2.2.2.1, zV9 h3 s_9.2.2.2.2.1 r1_1 r1_2 r1_3 r1_4 s_9.2.2.2.2.2.1 r1_6 r1_7 r1_8, zV4 r1_6 s_9.2.2.2.2.2.2.2.2.2.2.2.1 s_9.2.2.2.2.2.2.2.2.2.2.2.2.1 r2_2 r2_3 r2_4 r2_5 r2_6 r2_7 r2_8 r2_9, zV10 r0_0 r3_0 h1 o_5.1 s_9.2.2.2.2.2.2.1 s_9.2.2.2.2.2.2.2.1 s_9.2.2.2.2.2.2.2.2.1 s_9.2.2.2.2.2.2.2.2.2.1 s_9.2.2.2.2.2.2.2.2.2.2.1, zVi h1 k4 1200 f4, zVi r3_0 k5 13 f5, zVi r1_1 k6 4 s_9.2.2.2.2.2.2.2.2.2.2.2.2.2.1, zVi r2_2 k7 14 s_9.2.2.2.2.2.2.2.2.2.2.2.2.2.2.2.2.2.1, zVi r1_2 k8 4 s_9.2.2.2.2.2.2.2.2.2.2.2.2.2.2.1, zVi r1_3 k9 4 s_9.2.2.2.2.2.2.2.2.2.2.2.2.2.2.2.1, zVi r1_4 k10 4 s_9.2.2.2.2.2.2.2.2.2.2.2.2.2.2.2.2.1, zVi r2_5 k11 14 s_9.2.2.2.2.2.2.2.2.2.2.2.2.2.2.2.2.2.2.2.2.1, zVi r2_8 k12 28 s_9.2.2.2.2.2.2.2.2.2.2.2.2.2.2.2.2.2.2.2.2.2.2.2.1, zVi r2_9 k13 28 s_9.2.2.2.2.2.2.2.2.2.2.2.2.2.2.2.2.2.2.2.2.2.2.2.2, zVi r2_3 k14 14 s_9.2.2.2.2.2.2.2.2.2.2.2.2.2.2.2.2.2.2.1, zVi r2_4 k15 14 s_9.2.2.2.2.2.2.2.2.2.2.2.2.2.2.2.2.2.2.2.1, zVi r2_7 k16 14 s_9.2.2.2.2.2.2.2.2.2.2.2.2.2.2.2.2.2.2.2.2.2.2.1, zVi r2_6 k17 14 s_9.2.2.2.2.2.2.2.2.2.2.2.2.2.2.2.2.2.2.2.2.2.1] H → va_D A [zV5 h0 r0_0 s_9.2.1 s_9.2.2.1 s_9.2.2.2.1, zV9 h3 s_9.2.2.2.2.1 r1_1 r1_2 r1_3 r1_4 s_9.2.2.2.2.2.1 r1_6 r1_7 r1_8, zV4 r1_6 s_9.2.2.2.2.2.2.2.2.2.2.2.1 s_9.2.2.2.2.2.2.2.2.2.2.2.2.1 r2_2 r2_3 r2_4 r2_5 r2_6 r2_7 r2_8 r2_9, zV10 r0_0 r3_0 h1 o_5.1 s_9.2.2.2.2.2.2.1 s_9.2.2.2.2.2.2.2.1 s_9.2.2.2.2.2.2.2.2.1 s_9.2.2.2.2.2.2.2.2.2.1 s_9.2.2.2.2.2.2.2.2.2.2.1, zVi h1 k4 1200 f4, zVi r3_0 k5 13 f5, zVi r1_1 k6 4 s_9.2.2.2.2.2.2.2.2.2.2.2.2.2.1, zVi r2_2 k7 14 s_9.2.2.2.2.2.2.2.2.2.2.2.2.2.2.2.2.2.1, zVi r1_2 k8 4 s_9.2.2.2.2.2.2.2.2.2.2.2.2.2.2.1, zVi r1_3 k9 4 s_9.2.2.2.2.2.2.2.2.2.2.2.2.2.2.2.1, zVi r1_4 k10 4 s_9.2.2.2.2.2.2.2.2.2.2.2.2.2.2.2.2.1, zVi r2_5 k11 14 s_9.2.2.2.2.2.2.2.2.2.2.2.2.2.2.2.2.2.2.2.2.1, zVi r2_8 k12 28 s_9.2.2.2.2.2.2.2.2.2.2.2.2.2.2.2.2.2.2.2.2.2.2.2.1, zVi r2_9 k13 28 s_9.2.2.2.2.2.2.2.2.2.2.2.2.2.2.2.2.2.2.2.2.2.2.2.2, zVi r2_3 k14 14 s_9.2.2.2.2.2.2.2.2.2.2.2.2.2.2.2.2.2.2.1, zVi r2_4 k15 14 s_9.2.2.2.2.2.2.2.2.2.2.2.2.2.2.2.2.2.2.2.1, zVi r2_7 k16 14 s_9.2.2.2.2.2.2.2.2.2.2.2.2.2.2.2.2.2.2.2.2.2.2.1, zVi r2_6 k17 14 s_9.2.2.2.2.2.2.2.2.2.2.2.2.2.2.2.2.2.2.2.2.2.1] → va_S A s.heap H locs → lv_has ls 5 [(4, .int s_9.1), (0, .ref h0), (2, .int p2), (3, .ref h3)] → W p l e (headSpec wsX5_read ({ frames := 6, cells := 0, slots := 0, locals := 142 })).room s m ([.ref h0, .ref h1, .int p2, .ref h3] : List Value).toArray below meth c H locs 0 0 Q (F0 m 26 ls []) := by
    intro n
    induction n with
    | zero => exact fun _ _ _ _ hfn => (zl_0 hfn).elim
    | succ n ih_9 =>
      intro s_9 H locs ls hfn hP hD hS hl
      have hfn := zl_s ebd_9 hfn
      refine lv_iload hx hb dX5_read_26 (lv_at hl 0 rfl) ?_
      refine lv_bipush (v := 40) hx hb dX5_read_28 zcb_40 ?_
      obtain ⟨j_10, ej_10, hfn⟩ := zj_g hfn
      have jp_10 : ∀ (s_10 : Unit) (H : Heap) (locs : List Loc) (ls : Array Slot), j_10 s_10 = some o → va_P (dC, dI) vwCl [zV5 h0 r0_0 s_9.2.1 s_9.2.2.1 s_9.2.2.2.1, zV9 h3 s_9.2.2.2.2.1 r1_1 r1_2 r1_3 r1_4 s_9.2.2.2.2.2.1 r1_6 r1_7 r1_8, zV4 r1_6 s_9.2.2.2.2.2.2.2.2.2.2.2.1 s_9.2.2.2.2.2.2.2.2.2.2.2.2.1 r2_2 r2_3 r2_4 r2_5 r2_6 r2_7 r2_8 r2_9, zV10 r0_0 r3_0 h1 o_5.1 s_9.2.2.2.2.2.2.1 s_9.2.2.2.2.2.2.2.1 s_9.2.2.2.2.2.2.2.2.1 s_9.2.2.2.2.2.2.2.2.2.1 s_9.2.2.2.2.2.2.2.2.2.2.1, zVi h1 k4 1200 f4, zVi r3_0 k5 13 f5, zVi r1_1 k6 4 s_9.2.2.2.2.2.2.2.2.2.2.2.2.2.1, zVi r2_2 k7 14 s_9.2.2.2.2.2.2.2.2.2.2.2.2.2.2.2.2.2.1, zVi r1_2 k8 4 s_9.2.2.2.2.2.2.2.2.2.2.2.2.2.2.1, zVi r1_3 k9 4 s_9.2.2.2.2.2.2.2.2.2.2.2.2.2.2.2.1, zVi r1_4 k10 4 s_9.2.2.2.2.2.2.2.2.2.2.2.2.2.2.2.2.1, zVi r2_5 k11 14 s_9.2.2.2.2.2.2.2.2.2.2.2.2.2.2.2.2.2.2.2.2.1, zVi r2_8 k12 28 s_9.2.2.2.2.2.2.2.2.2.2.2.2.2.2.2.2.2.2.2.2.2.2.2.1, zVi r2_9 k13 28 s_9.2.2.2.2.2.2.2.2.2.2.2.2.2.2.2.2.2.2.2.2.2.2.2.2, zVi r2_3 k14 14 s_9.2.2.2.2.2.2.2.2.2.2.2.2.2.2.2.2.2.2.1, zVi r2_4 k15 14 s_9.2.2.2.2.2.2.2.2.2.2.2.2.2.2.2.2.2.2.2.1, zVi r2_7 k16 14 s_9.2.2.2.2.2.2.2.2.2.2.2.2.2.2.2.2.2.2.2.2.2.2.1, zVi r2_6 k17 14 s_9.2.2.2.2.2.2.2.2.2.2.2.2.2.2.2.2.2.2.2.2.2.1] H → va_D A [zV5 h0 r0_0 s_9.2.1 s_9.2.2.1 s_9.2.2.2.1, zV9 h3 s_9.2.2.2.2.1 r1_1 r1_2 r1_3 r1_4 s_9.2.2.2.2.2.1 r1_6 r1_7 r1_8, zV4 r1_6 s_9.2.2.2.2.2.2.2.2.2.2.2.1 s_9.2.2.2.2.2.2.2.2.2.2.2.2.1 r2_2 r2_3 r2_4 r2_5 r2_6 r2_7 r2_8 r2_9, zV10 r0_0 r3_0 h1 o_5.1 s_9.2.2.2.2.2.2.1 s_9.2.2.2.2.2.2.2.1 s_9.2.2.2.2.2.2.2.2.1 s_9.2.2.2.2.2.2.2.2.2.1 s_9.2.2.2.2.2.2.2.2.2.2.1, zVi h1 k4 1200 f4, zVi r3_0 k5 13 f5, zVi r1_1 k6 4 s_9.2.2.2.2.2.2.2.2.2.2.2.2.2.1, zVi r2_2 k7 14 s_9.2.2.2.2.2.2.2.2.2.2.2.2.2.2.2.2.2.1, zVi r1_2 k8 4 s_9.2.2.2.2.2.2.2.2.2.2.2.2.2.2.1, zVi r1_3 k9 4 s_9.2.2.2.2.2.2.2.2.2.2.2.2.2.2.2.1, zVi r1_4 k10 4 s_9.2.2.2.2.2.2.2.2.2.2.2.2.2.2.2.2.1, zVi r2_5 k11 14 s_9.2.2.2.2.2.2.2.2.2.2.2.2.2.2.2.2.2.2.2.2.1, zVi r2_8 k12 28 s_9.2.2.2.2.2.2.2.2.2.2.2.2.2.2.2.2.2.2.2.2.2.2.2.1, zVi r2_9 k13 28 s_9.2.2.2.2.2.2.2.2.2.2.2.2.2.2.2.2.2.2.2.2.2.2.2.2, zVi r2_3 k14 14 s_9.2.2.2.2.2.2.2.2.2.2.2.2.2.2.2.2.2.2.1, zVi r2_4 k15 14 s_9.2.2.2.2.2.2.2.2.2.2.2.2.2.2.2.2.2.2.2.1, zVi r2_7 k16 14 s_9.2.2.2.2.2.2.2.2.2.2.2.2.2.2.2.2.2.2.2.2.2.2.1, zVi r2_6 k17 14 s_9.2.2.2.2.2.2.2.2.2.2.2.2.2.2.2.2.2.2.2.2.2.1] → va_S A s.heap H locs → lv_has ls 5 [(0, .ref h0), (2, .int p2), (3, .ref h3)] → W p l e (headSpec wsX5_read ({ frames := 6, cells := 0, slots := 0, locals := 142 })).room s m ([.ref h0, .ref h1, .int p2, .ref h3] : List Value).toArray below meth c H locs 0 0 Q (F0 m 61 ls []) := by
        intro s_10 H locs ls hfn hP hD hS hl
        have hfn := zj_s ej_10 hfn
        refine lv_aload_n hx hb dX5_read_61 rfl (lv_at hl 2 rfl) ?_
        refine va_get (D := (dC, dI)) (ci := 9) (v := .int s_9.2.2.2.2.1) (C := RX9) (T := TX9) (N := 9) hx hb hts zn_X5_read_X9 hown hK hP 1 rfl rfl 0 (of_decide_eq_true rfl) (hts (.fieldLink RX5 41 "ShortEnough$Task" "formats" "I") zw_X5_read_527) (fun _ h9 => h9) rfl dX5_read_62 ?_
        obtain ⟨j_11, ej_11, hfn⟩ := zj_g hfn
        have jp_11 : ∀ (s_11 : Int32) (H : Heap) (locs : List Loc) (ls : Array Slot), j_11 s_11 = some o → va_P (dC, dI) vwCl [zV5 h0 r0_0 s_9.2.1 s_9.2.2.1 s_9.2.2.2.1, zV9 h3 s_9.2.2.2.2.1 r1_1 r1_2 r1_3 r1_4 s_9.2.2.2.2.2.1 r1_6 r1_7 r1_8, zV4 r1_6 s_9.2.2.2.2.2.2.2.2.2.2.2.1 s_9.2.2.2.2.2.2.2.2.2.2.2.2.1 r2_2 r2_3 r2_4 r2_5 r2_6 r2_7 r2_8 r2_9, zV10 r0_0 r3_0 h1 o_5.1 s_9.2.2.2.2.2.2.1 s_9.2.2.2.2.2.2.2.1 s_9.2.2.2.2.2.2.2.2.1 s_9.2.2.2.2.2.2.2.2.2.1 s_9.2.2.2.2.2.2.2.2.2.2.1, zVi h1 k4 1200 f4, zVi r3_0 k5 13 f5, zVi r1_1 k6 4 s_9.2.2.2.2.2.2.2.2.2.2.2.2.2.1, zVi r2_2 k7 14 s_9.2.2.2.2.2.2.2.2.2.2.2.2.2.2.2.2.2.1, zVi r1_2 k8 4 s_9.2.2.2.2.2.2.2.2.2.2.2.2.2.2.1, zVi r1_3 k9 4 s_9.2.2.2.2.2.2.2.2.2.2.2.2.2.2.2.1, zVi r1_4 k10 4 s_9.2.2.2.2.2.2.2.2.2.2.2.2.2.2.2.2.1, zVi r2_5 k11 14 s_9.2.2.2.2.2.2.2.2.2.2.2.2.2.2.2.2.2.2.2.2.1, zVi r2_8 k12 28 s_9.2.2.2.2.2.2.2.2.2.2.2.2.2.2.2.2.2.2.2.2.2.2.2.1, zVi r2_9 k13 28 s_9.2.2.2.2.2.2.2.2.2.2.2.2.2.2.2.2.2.2.2.2.2.2.2.2, zVi r2_3 k14 14 s_9.2.2.2.2.2.2.2.2.2.2.2.2.2.2.2.2.2.2.1, zVi r2_4 k15 14 s_9.2.2.2.2.2.2.2.2.2.2.2.2.2.2.2.2.2.2.2.1, zVi r2_7 k16 14 s_9.2.2.2.2.2.2.2.2.2.2.2.2.2.2.2.2.2.2.2.2.2.2.1, zVi r2_6 k17 14 s_9.2.2.2.2.2.2.2.2.2.2.2.2.2.2.2.2.2.2.2.2.2.1] H → va_D A [zV5 h0 r0_0 s_9.2.1 s_9.2.2.1 s_9.2.2.2.1, zV9 h3 s_9.2.2.2.2.1 r1_1 r1_2 r1_3 r1_4 s_9.2.2.2.2.2.1 r1_6 r1_7 r1_8, zV4 r1_6 s_9.2.2.2.2.2.2.2.2.2.2.2.1 s_9.2.2.2.2.2.2.2.2.2.2.2.2.1 r2_2 r2_3 r2_4 r2_5 r2_6 r2_7 r2_8 r2_9, zV10 r0_0 r3_0 h1 o_5.1 s_9.2.2.2.2.2.2.1 s_9.2.2.2.2.2.2.2.1 s_9.2.2.2.2.2.2.2.2.1 s_9.2.2.2.2.2.2.2.2.2.1 s_9.2.2.2.2.2.2.2.2.2.2.1, zVi h1 k4 1200 f4, zVi r3_0 k5 13 f5, zVi r1_1 k6 4 s_9.2.2.2.2.2.2.2.2.2.2.2.2.2.1, zVi r2_2 k7 14 s_9.2.2.2.2.2.2.2.2.2.2.2.2.2.2.2.2.2.1, zVi r1_2 k8 4 s_9.2.2.2.2.2.2.2.2.2.2.2.2.2.2.1, zVi r1_3 k9 4 s_9.2.2.2.2.2.2.2.2.2.2.2.2.2.2.2.1, zVi r1_4 k10 4 s_9.2.2.2.2.2.2.2.2.2.2.2.2.2.2.2.2.1, zVi r2_5 k11 14 s_9.2.2.2.2.2.2.2.2.2.2.2.2.2.2.2.2.2.2.2.2.1, zVi r2_8 k12 28 s_9.2.2.2.2.2.2.2.2.2.2.2.2.2.2.2.2.2.2.2.2.2.2.2.1, zVi r2_9 k13 28 s_9.2.2.2.2.2.2.2.2.2.2.2.2.2.2.2.2.2.2.2.2.2.2.2.2, zVi r2_3 k14 14 s_9.2.2.2.2.2.2.2.2.2.2.2.2.2.2.2.2.2.2.1, zVi r2_4 k15 14 s_9.2.2.2.2.2.2.2.2.2.2.2.2.2.2.2.2.2.2.2.1, zVi r2_7 k16 14 s_9.2.2.2.2.2.2.2.2.2.2.2.2.2.2.2.2.2.2.2.2.2.2.1, zVi r2_6 k17 14 s_9.2.2.2.2.2.2.2.2.2.2.2.2.2.2.2.2.2.2.2.2.2.1] → va_S A s.heap H locs → lv_has ls 5 [(0, .ref h0), (2, .int p2)] → W p l e (headSpec wsX5_read ({ frames := 6, cells := 0, slots := 0, locals := 142 })).room s m ([.ref h0, .ref h1, .int p2, .ref h3] : List Value).toArray below meth c H locs 0 0 Q (F0 m 83 ls [.int s_11]) := by
          intro s_11 H locs ls hfn hP hD hS hl
          have hfn := zj_s ej_11 hfn
          refine lv_istore (lv' := [(4, .int s_11), (0, .ref h0), (2, .int p2)]) hx hb dX5_read_83 hl (of_decide_eq_true rfl) rfl (fun ls hl => ?_)
          refine lv_iload hx hb dX5_read_85 (lv_at hl 0 rfl) ?_
          refine lv_if_ne (tgt := 99) hx hb dX5_read_87 (of_decide_eq_true rfl) (fun c_12 => ?_) (fun c_12 => ?_)
          · have hfn := (if_neg c_12).symm.trans hfn
            refine lv_iconst (v := 1) hx hb dX5_read_99 zci_1 ?_
            refine lv_goto (tgt := 104) hx hb dX5_read_100 (of_decide_eq_true rfl) ?_
            have ho := Option.some.inj hfn
            subst ho
            exact zrz hx hb hr rfl hK hP hD hS hQ ⟨rfl, zB1⟩ hlocks dX5_read_104
          have hfn := (if_pos c_12).symm.trans hfn
          refine lv_aload_n hx hb dX5_read_90 rfl (lv_at hl 1 rfl) ?_
          refine lv_iconst (v := 4) hx hb dX5_read_91 zci_4 ?_
          refine lv_iload_n hx hb dX5_read_92 rfl (lv_at hl 2 rfl) ?_
          obtain ⟨o_13, hqo_13, hfn⟩ := zb_s hfn
          refine zcVb (ci := 5) (rest := []) (pc' := 96) (ws' := [zV5 h0 r0_0 s_9.2.1 o_13.2.1 o_13.2.2, zV9 h3 s_9.2.2.2.2.1 r1_1 r1_2 r1_3 r1_4 s_9.2.2.2.2.2.1 r1_6 r1_7 r1_8, zV4 r1_6 s_9.2.2.2.2.2.2.2.2.2.2.2.1 s_9.2.2.2.2.2.2.2.2.2.2.2.2.1 r2_2 r2_3 r2_4 r2_5 r2_6 r2_7 r2_8 r2_9, zV10 r0_0 r3_0 h1 o_5.1 s_9.2.2.2.2.2.2.1 s_9.2.2.2.2.2.2.2.1 s_9.2.2.2.2.2.2.2.2.1 s_9.2.2.2.2.2.2.2.2.2.1 s_9.2.2.2.2.2.2.2.2.2.2.1, zVi h1 k4 1200 f4, zVi r3_0 k5 13 f5, zVi r1_1 k6 4 s_9.2.2.2.2.2.2.2.2.2.2.2.2.2.1, zVi r2_2 k7 14 s_9.2.2.2.2.2.2.2.2.2.2.2.2.2.2.2.2.2.1, zVi r1_2 k8 4 s_9.2.2.2.2.2.2.2.2.2.2.2.2.2.2.1, zVi r1_3 k9 4 s_9.2.2.2.2.2.2.2.2.2.2.2.2.2.2.2.1, zVi r1_4 k10 4 s_9.2.2.2.2.2.2.2.2.2.2.2.2.2.2.2.2.1, zVi r2_5 k11 14 s_9.2.2.2.2.2.2.2.2.2.2.2.2.2.2.2.2.2.2.2.2.1, zVi r2_8 k12 28 s_9.2.2.2.2.2.2.2.2.2.2.2.2.2.2.2.2.2.2.2.2.2.2.2.1, zVi r2_9 k13 28 s_9.2.2.2.2.2.2.2.2.2.2.2.2.2.2.2.2.2.2.2.2.2.2.2.2, zVi r2_3 k14 14 s_9.2.2.2.2.2.2.2.2.2.2.2.2.2.2.2.2.2.2.1, zVi r2_4 k15 14 s_9.2.2.2.2.2.2.2.2.2.2.2.2.2.2.2.2.2.2.2.1, zVi r2_7 k16 14 s_9.2.2.2.2.2.2.2.2.2.2.2.2.2.2.2.2.2.2.2.2.2.2.1, zVi r2_6 k17 14 s_9.2.2.2.2.2.2.2.2.2.2.2.2.2.2.2.2.2.2.2.2.2.1]) hP hK hD hS hA ⟨hx, hb, hml, hown, hts⟩ (zf_X5_stopAt l dC dI h0 4 p2 r0_0 s_9.2.1 s_9.2.2.1 s_9.2.2.2.1 o_13 hqo_13 H.size) (cwV 2 hts gX5_read_X5_stopAt rfl rfl rfl zhd_X5_stopAt ⟨Nat.le_of_ble_eq_true rfl, Nat.le_of_ble_eq_true rfl⟩) [0] rfl (of_decide_eq_true rfl) [] rfl rfl rfl rfl hl.1 rfl (Nat.le_of_ble_eq_true rfl) dX5_read_93 ⟨Nat.le_of_ble_eq_true rfl, Nat.le_of_ble_eq_true rfl⟩ [some 0] (of_decide_eq_true rfl) (of_decide_eq_true rfl) rfl rfl rfl (fun H locs hw_16n hP hD hS => ?_)
          refine lv_if_eq (tgt := 103) hx hb dX5_read_96 (of_decide_eq_true rfl) (fun c_17 => ?_) (fun c_17 => ?_)
          · have hfn := (if_pos c_17).symm.trans hfn
            refine lv_iconst (v := 0) hx hb dX5_read_103 zci_0 ?_
            have ho := Option.some.inj hfn
            subst ho
            exact zrz hx hb hr rfl hK hP hD hS hQ ⟨rfl, zB0⟩ hlocks dX5_read_104
          have hfn := (if_neg c_17).symm.trans hfn
          refine lv_iconst (v := 1) hx hb dX5_read_99 zci_1 ?_
          refine lv_goto (tgt := 104) hx hb dX5_read_100 (of_decide_eq_true rfl) ?_
          have ho := Option.some.inj hfn
          subst ho
          exact zrz hx hb hr rfl hK hP hD hS hQ ⟨rfl, zB1⟩ hlocks dX5_read_104
        obtain ⟨j_18, ej_18, hfn⟩ := zj_g hfn
        have jp_18 : ∀ (s_18 : Unit) (H : Heap) (locs : List Loc) (ls : Array Slot), j_18 s_18 = some o → va_P (dC, dI) vwCl [zV5 h0 r0_0 s_9.2.1 s_9.2.2.1 s_9.2.2.2.1, zV9 h3 s_9.2.2.2.2.1 r1_1 r1_2 r1_3 r1_4 s_9.2.2.2.2.2.1 r1_6 r1_7 r1_8, zV4 r1_6 s_9.2.2.2.2.2.2.2.2.2.2.2.1 s_9.2.2.2.2.2.2.2.2.2.2.2.2.1 r2_2 r2_3 r2_4 r2_5 r2_6 r2_7 r2_8 r2_9, zV10 r0_0 r3_0 h1 o_5.1 s_9.2.2.2.2.2.2.1 s_9.2.2.2.2.2.2.2.1 s_9.2.2.2.2.2.2.2.2.1 s_9.2.2.2.2.2.2.2.2.2.1 s_9.2.2.2.2.2.2.2.2.2.2.1, zVi h1 k4 1200 f4, zVi r3_0 k5 13 f5, zVi r1_1 k6 4 s_9.2.2.2.2.2.2.2.2.2.2.2.2.2.1, zVi r2_2 k7 14 s_9.2.2.2.2.2.2.2.2.2.2.2.2.2.2.2.2.2.1, zVi r1_2 k8 4 s_9.2.2.2.2.2.2.2.2.2.2.2.2.2.2.1, zVi r1_3 k9 4 s_9.2.2.2.2.2.2.2.2.2.2.2.2.2.2.2.1, zVi r1_4 k10 4 s_9.2.2.2.2.2.2.2.2.2.2.2.2.2.2.2.2.1, zVi r2_5 k11 14 s_9.2.2.2.2.2.2.2.2.2.2.2.2.2.2.2.2.2.2.2.2.1, zVi r2_8 k12 28 s_9.2.2.2.2.2.2.2.2.2.2.2.2.2.2.2.2.2.2.2.2.2.2.2.1, zVi r2_9 k13 28 s_9.2.2.2.2.2.2.2.2.2.2.2.2.2.2.2.2.2.2.2.2.2.2.2.2, zVi r2_3 k14 14 s_9.2.2.2.2.2.2.2.2.2.2.2.2.2.2.2.2.2.2.1, zVi r2_4 k15 14 s_9.2.2.2.2.2.2.2.2.2.2.2.2.2.2.2.2.2.2.2.1, zVi r2_7 k16 14 s_9.2.2.2.2.2.2.2.2.2.2.2.2.2.2.2.2.2.2.2.2.2.2.1, zVi r2_6 k17 14 s_9.2.2.2.2.2.2.2.2.2.2.2.2.2.2.2.2.2.2.2.2.2.1] H → va_D A [zV5 h0 r0_0 s_9.2.1 s_9.2.2.1 s_9.2.2.2.1, zV9 h3 s_9.2.2.2.2.1 r1_1 r1_2 r1_3 r1_4 s_9.2.2.2.2.2.1 r1_6 r1_7 r1_8, zV4 r1_6 s_9.2.2.2.2.2.2.2.2.2.2.2.1 s_9.2.2.2.2.2.2.2.2.2.2.2.2.1 r2_2 r2_3 r2_4 r2_5 r2_6 r2_7 r2_8 r2_9, zV10 r0_0 r3_0 h1 o_5.1 s_9.2.2.2.2.2.2.1 s_9.2.2.2.2.2.2.2.1 s_9.2.2.2.2.2.2.2.2.1 s_9.2.2.2.2.2.2.2.2.2.1 s_9.2.2.2.2.2.2.2.2.2.2.1, zVi h1 k4 1200 f4, zVi r3_0 k5 13 f5, zVi r1_1 k6 4 s_9.2.2.2.2.2.2.2.2.2.2.2.2.2.1, zVi r2_2 k7 14 s_9.2.2.2.2.2.2.2.2.2.2.2.2.2.2.2.2.2.1, zVi r1_2 k8 4 s_9.2.2.2.2.2.2.2.2.2.2.2.2.2.2.1, zVi r1_3 k9 4 s_9.2.2.2.2.2.2.2.2.2.2.2.2.2.2.2.1, zVi r1_4 k10 4 s_9.2.2.2.2.2.2.2.2.2.2.2.2.2.2.2.2.1, zVi r2_5 k11 14 s_9.2.2.2.2.2.2.2.2.2.2.2.2.2.2.2.2.2.2.2.2.1, zVi r2_8 k12 28 s_9.2.2.2.2.2.2.2.2.2.2.2.2.2.2.2.2.2.2.2.2.2.2.2.1, zVi r2_9 k13 28 s_9.2.2.2.2.2.2.2.2.2.2.2.2.2.2.2.2.2.2.2.2.2.2.2.2, zVi r2_3 k14 14 s_9.2.2.2.2.2.2.2.2.2.2.2.2.2.2.2.2.2.2.1, zVi r2_4 k15 14 s_9.2.2.2.2.2.2.2.2.2.2.2.2.2.2.2.2.2.2.2.1, zVi r2_7 k16 14 s_9.2.2.2.2.2.2.2.2.2.2.2.2.2.2.2.2.2.2.2.2.2.2.1, zVi r2_6 k17 14 s_9.2.2.2.2.2.2.2.2.2.2.2.2.2.2.2.2.2.2.2.2.2.1] → va_S A s.heap H locs → lv_has ls 5 [(0, .ref h0), (2, .int p2)] → W p l e (headSpec wsX5_read ({ frames := 6, cells := 0, slots := 0, locals := 142 })).room s m ([.ref h0, .ref h1, .int p2, .ref h3] : List Value).toArray below meth c H locs 0 0 Q (F0 m 82 ls []) := by
          intro s_18 H locs ls hfn hP hD hS hl
          have hfn := zj_s ej_18 hfn
          refine lv_iconst (v := 0) hx hb dX5_read_82 zci_0 ?_
          exact jp_11 0 H locs ls hfn hP hD hS (lv_sub hl [0, 1] rfl)
        refine lv_if_le (tgt := 82) hx hb dX5_read_65 (of_decide_eq_true rfl) (fun c_19 => ?_) (fun c_19 => ?_)
        · have hfn := (if_pos c_19).symm.trans hfn
          exact jp_18 () H locs ls hfn hP hD hS (lv_sub hl [0, 1] rfl)
        have hfn := (if_neg c_19).symm.trans hfn
        refine lv_aload_n hx hb dX5_read_68 rfl (lv_at hl 2 rfl) ?_
        refine va_get (D := (dC, dI)) (ci := 9) (v := .ref r1_6) (C := RX9) (T := TX9) (N := 9) hx hb hts zn_X5_read_X9 hown hK hP 1 rfl rfl 6 (of_decide_eq_true rfl) (hts (.fieldLink RX5 44 "ShortEnough$Task" "numbers" "LShortEnough$Numbers;") zw_X5_read_528) (fun _ h9 => h9) rfl dX5_read_69 ?_
        refine va_get (D := (dC, dI)) (ci := 4) (v := .int s_9.2.2.2.2.2.2.2.2.2.2.2.1) (C := RX4) (T := TX4) (N := 10) hx hb hts zn_X5_read_X4 hown hK hP 2 rfl rfl 0 (of_decide_eq_true rfl) (hts (.fieldLink RX5 48 "ShortEnough$Numbers" "count" "I") zw_X5_read_530) (fun _ h9 => h9) rfl dX5_read_72 ?_
        refine lv_if_le (tgt := 82) hx hb dX5_read_75 (of_decide_eq_true rfl) (fun c_20 => ?_) (fun c_20 => ?_)
        · have hfn := (if_pos c_20).symm.trans hfn
          exact jp_18 () H locs ls hfn hP hD hS (lv_sub hl [0, 1] rfl)
        have hfn := (if_neg c_20).symm.trans hfn
        refine lv_iconst (v := 1) hx hb dX5_read_78 zci_1 ?_
        refine lv_goto (tgt := 83) hx hb dX5_read_79 (of_decide_eq_true rfl) ?_
        exact jp_11 1 H locs ls hfn hP hD hS (lv_sub hl [0, 1] rfl)
      refine lv_icmp_gt (tgt := 61) hx hb dX5_read_30 (of_decide_eq_true rfl) (fun c_21 => ?_) (fun c_21 => ?_)
      · have hfn := (if_pos c_21).symm.trans hfn
        exact jp_10 () H locs ls hfn hP hD hS (lv_sub hl [1, 2, 3] rfl)
      have hfn := (if_neg c_21).symm.trans hfn
      refine lv_aload_n hx hb dX5_read_33 rfl (lv_at hl 1 rfl) ?_
      refine va_get (D := (dC, dI)) (ci := 5) (v := .ref r0_0) (C := RX5) (T := TX5) (N := 4) hx hb hts zn_X5_read_X5 hown hK hP 0 rfl rfl 0 (of_decide_eq_true rfl) (hts (.fieldLink RX5 12 "ShortEnough$Parser" "words" "LShortEnough$Words;") zw_X5_read_383) (fun _ h9 => h9) rfl dX5_read_34 ?_
      refine va_get (D := (dC, dI)) (ci := 10) (v := .int s_9.2.2.2.2.2.2.2.1) (C := RX10) (T := TX10) (N := 8) hx hb hts zn_X5_read_X10 hown hK hP 3 rfl rfl 4 (of_decide_eq_true rfl) (hts (.fieldLink RX5 34 "ShortEnough$Words" "kind" "I") zw_X5_read_410) (fun _ h9 => h9) rfl dX5_read_37 ?_
      refine lv_if_eq (tgt := 61) hx hb dX5_read_40 (of_decide_eq_true rfl) (fun c_22 => ?_) (fun c_22 => ?_)
      · have hfn := (if_pos c_22).symm.trans hfn
        exact jp_10 () H locs ls hfn hP hD hS (lv_sub hl [1, 2, 3] rfl)
      have hfn := (if_neg c_22).symm.trans hfn
      refine lv_aload_n hx hb dX5_read_43 rfl (lv_at hl 1 rfl) ?_
      refine lv_aload_n hx hb dX5_read_44 rfl (lv_at hl 3 rfl) ?_
      refine lv_iload hx hb dX5_read_45 (lv_at hl 0 rfl) ?_
      obtain ⟨o_23, hqo_23, hfn⟩ := zb_s hfn
      refine zcVb (ci := 5) (rest := []) (pc' := 50) (ws' := [zV5 h0 r0_0 o_23.2.1 o_23.2.2.1 o_23.2.2.2.1, zV9 h3 o_23.2.2.2.2.2.2.2.2.2.1 r1_1 r1_2 r1_3 r1_4 o_23.2.2.2.2.2.2.2.2.2.2.1 r1_6 r1_7 r1_8, zV4 r1_6 o_23.2.2.2.2.2.2.2.2.2.2.2.1 o_23.2.2.2.2.2.2.2.2.2.2.2.2.1 r2_2 r2_3 r2_4 r2_5 r2_6 r2_7 r2_8 r2_9, zV10 r0_0 r3_0 h1 o_5.1 o_23.2.2.2.2.1 o_23.2.2.2.2.2.1 o_23.2.2.2.2.2.2.1 o_23.2.2.2.2.2.2.2.1 o_23.2.2.2.2.2.2.2.2.1, zVi h1 k4 1200 f4, zVi r3_0 k5 13 f5, zVi r1_1 k6 4 o_23.2.2.2.2.2.2.2.2.2.2.2.2.2.1, zVi r2_2 k7 14 o_23.2.2.2.2.2.2.2.2.2.2.2.2.2.2.1, zVi r1_2 k8 4 o_23.2.2.2.2.2.2.2.2.2.2.2.2.2.2.2.1, zVi r1_3 k9 4 o_23.2.2.2.2.2.2.2.2.2.2.2.2.2.2.2.2.1, zVi r1_4 k10 4 o_23.2.2.2.2.2.2.2.2.2.2.2.2.2.2.2.2.2.1, zVi r2_5 k11 14 o_23.2.2.2.2.2.2.2.2.2.2.2.2.2.2.2.2.2.2.1, zVi r2_8 k12 28 o_23.2.2.2.2.2.2.2.2.2.2.2.2.2.2.2.2.2.2.2.1, zVi r2_9 k13 28 o_23.2.2.2.2.2.2.2.2.2.2.2.2.2.2.2.2.2.2.2.2.1, zVi r2_3 k14 14 o_23.2.2.2.2.2.2.2.2.2.2.2.2.2.2.2.2.2.2.2.2.2.1, zVi r2_4 k15 14 o_23.2.2.2.2.2.2.2.2.2.2.2.2.2.2.2.2.2.2.2.2.2.2.1, zVi r2_7 k16 14 o_23.2.2.2.2.2.2.2.2.2.2.2.2.2.2.2.2.2.2.2.2.2.2.2.1, zVi r2_6 k17 14 o_23.2.2.2.2.2.2.2.2.2.2.2.2.2.2.2.2.2.2.2.2.2.2.2.2]) hP hK hD hS hA ⟨hx, hb, hml, hown, hts⟩ (zf_X5_readStatement l dC dI h0 h3 s_9.1 r0_0 s_9.2.1 s_9.2.2.1 s_9.2.2.2.1 r3_0 h1 o_5.1 s_9.2.2.2.2.2.2.1 s_9.2.2.2.2.2.2.2.1 s_9.2.2.2.2.2.2.2.2.1 s_9.2.2.2.2.2.2.2.2.2.1 s_9.2.2.2.2.2.2.2.2.2.2.1 s_9.2.2.2.2.1 r1_1 r1_2 r1_3 r1_4 s_9.2.2.2.2.2.1 r1_6 r1_7 r1_8 s_9.2.2.2.2.2.2.2.2.2.2.2.1 s_9.2.2.2.2.2.2.2.2.2.2.2.2.1 r2_2 r2_3 r2_4 r2_5 r2_6 r2_7 r2_8 r2_9 k4 f4 k5 f5 k6 s_9.2.2.2.2.2.2.2.2.2.2.2.2.2.1 k7 s_9.2.2.2.2.2.2.2.2.2.2.2.2.2.2.2.2.2.1 k8 s_9.2.2.2.2.2.2.2.2.2.2.2.2.2.2.1 k9 s_9.2.2.2.2.2.2.2.2.2.2.2.2.2.2.2.1 k10 s_9.2.2.2.2.2.2.2.2.2.2.2.2.2.2.2.2.1 k11 s_9.2.2.2.2.2.2.2.2.2.2.2.2.2.2.2.2.2.2.2.2.1 k12 s_9.2.2.2.2.2.2.2.2.2.2.2.2.2.2.2.2.2.2.2.2.2.2.2.1 k13 s_9.2.2.2.2.2.2.2.2.2.2.2.2.2.2.2.2.2.2.2.2.2.2.2.2 k14 s_9.2.2.2.2.2.2.2.2.2.2.2.2.2.2.2.2.2.2.1 k15 s_9.2.2.2.2.2.2.2.2.2.2.2.2.2.2.2.2.2.2.2.1 k16 s_9.2.2.2.2.2.2.2.2.2.2.2.2.2.2.2.2.2.2.2.2.2.2.1 k17 s_9.2.2.2.2.2.2.2.2.2.2.2.2.2.2.2.2.2.2.2.2.2.1 o_23 hqo_23 H.size) (cwV 2 hts gX5_read_X5_readStatement rfl rfl rfl zhd_X5_readStatement ⟨Nat.le_of_ble_eq_true rfl, Nat.le_of_ble_eq_true rfl⟩) [0, 3, 1, 2, 4, 5, 6, 7, 8, 9, 10, 11, 12, 13, 14, 15, 16, 17] rfl (of_decide_eq_true rfl) [0, 1, 2, 3, 4, 5, 6, 7, 8, 9, 10, 11, 12, 13] rfl rfl rfl rfl hl.1 rfl (Nat.le_of_ble_eq_true rfl) dX5_read_47 ⟨Nat.le_of_ble_eq_true rfl, Nat.le_of_ble_eq_true rfl⟩ [some 0, some 2, some 3, some 1, some 4, some 5, some 6, some 7, some 8, some 9, some 10, some 11, some 12, some 13, some 14, some 15, some 16, some 17] (of_decide_eq_true rfl) (of_decide_eq_true rfl) rfl rfl rfl (fun H locs hw_26n hP hD hS => ?_)
      refine lv_if_ne (tgt := 55) hx hb dX5_read_50 (of_decide_eq_true rfl) (fun c_27 => ?_) (fun c_27 => ?_)
      · have hfn := (if_neg c_27).symm.trans hfn
        refine lv_iinc (v := (s_9.1 + 1)) (lv' := [(4, .int (s_9.1 + 1)), (0, .ref h0), (2, .int p2), (3, .ref h3)]) hx hb dX5_read_55 hl (k := 0) rfl rfl (of_decide_eq_true rfl) rfl (fun ls hl => ?_)
        refine lv_goto (tgt := 26) hx hb dX5_read_58 (of_decide_eq_true rfl) ?_
        exact ih_9 ((s_9.1 + 1), o_23.2.1, o_23.2.2.1, o_23.2.2.2.1, o_23.2.2.2.2.2.2.2.2.2.1, o_23.2.2.2.2.2.2.2.2.2.2.1, o_23.2.2.2.2.1, o_23.2.2.2.2.2.1, o_23.2.2.2.2.2.2.1, o_23.2.2.2.2.2.2.2.1, o_23.2.2.2.2.2.2.2.2.1, o_23.2.2.2.2.2.2.2.2.2.2.2.1, o_23.2.2.2.2.2.2.2.2.2.2.2.2.1, o_23.2.2.2.2.2.2.2.2.2.2.2.2.2.1, o_23.2.2.2.2.2.2.2.2.2.2.2.2.2.2.2.1, o_23.2.2.2.2.2.2.2.2.2.2.2.2.2.2.2.2.1, o_23.2.2.2.2.2.2.2.2.2.2.2.2.2.2.2.2.2.1, o_23.2.2.2.2.2.2.2.2.2.2.2.2.2.2.1, o_23.2.2.2.2.2.2.2.2.2.2.2.2.2.2.2.2.2.2.2.2.2.1, o_23.2.2.2.2.2.2.2.2.2.2.2.2.2.2.2.2.2.2.2.2.2.2.1, o_23.2.2.2.2.2.2.2.2.2.2.2.2.2.2.2.2.2.2.1, o_23.2.2.2.2.2.2.2.2.2.2.2.2.2.2.2.2.2.2.2.2.2.2.2.2, o_23.2.2.2.2.2.2.2.2.2.2.2.2.2.2.2.2.2.2.2.2.2.2.2.1, o_23.2.2.2.2.2.2.2.2.2.2.2.2.2.2.2.2.2.2.2.1, o_23.2.2.2.2.2.2.2.2.2.2.2.2.2.2.2.2.2.2.2.2.1) H locs ls hfn hP hD hS (lv_sub hl [0, 1, 2, 3] rfl)
      have hfn := (if_pos c_27).symm.trans hfn
      refine lv_iconst (v := 0) hx hb dX5_read_53 zci_0 ?_
      have ho := Option.some.inj hfn
      subst ho
      exact zrz hx hb hr rfl hK hP hD hS hQ ⟨rfl, zB0⟩ hlocks dX5_read_54
  exact lp_9 _ (0, v0_1, 0, (-1), o_1.1, o_1.2.1, o_5.2.1, o_5.2.2.1, o_5.2.2.2.1, o_5.2.2.2.2.1, o_5.2.2.2.2.2, o_1.2.2.1, o_1.2.2.2, f6, f8, f9, f10, f7, f14, f15, f11, f17, f16, f12, f13) H locs ls hfn hP hD hS (lv_sub hl [0, 1, 3, 4] rfl)
theorem zw_X6_held_535 : Cond.constantLong RX6 53 (-2000000000) ∈ wsX6_held := List.mem_of_getElem? (i := 1) (by decide +kernel)
theorem zw_X6_held_536 : Cond.constantLong RX6 55 (2000000000) ∈ wsX6_held := List.mem_of_getElem? (i := 2) (by decide +kernel)
theorem zw_X6_held_537 : Cond.methodLink RX6 57 Lib.MathLoose.min_long.x ∈ wsX6_held := List.mem_of_getElem? (i := 3) (by decide +kernel)
theorem zw_X6_held_538 : Cond.static Lib.MathLoose.min_long.x ∈ wsX6_held := List.mem_of_getElem? (i := 4) (by decide +kernel)
theorem zw_X6_held_539 : Cond.initialized "java/lang/Math" ∈ wsX6_held := List.mem_of_getElem? (i := 5) (by decide +kernel)
theorem zw_X6_held_540 : Cond.code Lib.MathLoose.min_long.x Lib.MathLoose.min_long.code 4 (some .long) ∈ wsX6_held := List.mem_of_getElem? (i := 6) (by decide +kernel)
theorem zw_X6_held_541 : Cond.methodLink RX6 63 Lib.MathLoose.max_long.x ∈ wsX6_held := List.mem_of_getElem? (i := 7) (by decide +kernel)
theorem zw_X6_held_542 : Cond.static Lib.MathLoose.max_long.x ∈ wsX6_held := List.mem_of_getElem? (i := 8) (by decide +kernel)
theorem zw_X6_held_543 : Cond.code Lib.MathLoose.max_long.x Lib.MathLoose.max_long.code 4 (some .long) ∈ wsX6_held := List.mem_of_getElem? (i := 9) (by decide +kernel)
set_option maxHeartbeats 4000000 in
set_option maxRecDepth 100000 in
theorem zf_X6_held (l : Launch) (dC : Nat → ClassId) (dI : Nat → Nat → Nat) (j0 : Int64) (o : Int64) (hfn : fn_X6_held j0 = some o) (sz : Nat) : zMl l yX6_held wsX6_held ({ frames := 1, cells := 0, slots := 0, locals := 40 }) (dC, dI) vwCl [.long j0] [] [] (fun r _ => r = o) [] [] sz := by
  refine zgol (cc := cX6_held) (maxL := 2) (ret := (some .long)) (C0 := RX6) (lv0 := [(0, .long j0)]) zpl_X6 rfl rfl rfl (Nat.le_of_ble_eq_true rfl) ?_
  intro p e s m below meth c A ls Q hx hb hr hts hown hlocks hml hP hK hD hA hS hl hQ
  unfold fn_X6_held at hfn
  refine lv_ldc2 (v := (-2000000000)) hx hb hown (hts (.constantLong RX6 53 (-2000000000)) zw_X6_held_535) dX6_held_0 ?_
  refine lv_ldc2 (v := 2000000000) hx hb hown (hts (.constantLong RX6 55 (2000000000)) zw_X6_held_536) dX6_held_3 ?_
  refine lv_lload_n hx hb dX6_held_6 rfl (lv_at hl 0 rfl) ?_
  refine va_mmin_long hx hb (by rw [hml]; exact hl.1.symm) hown (hts (.methodLink RX6 57 Lib.MathLoose.min_long.x) zw_X6_held_537) (hts (.static Lib.MathLoose.min_long.x) zw_X6_held_538) (hts (.initialized "java/lang/Math") zw_X6_held_539) (hts (.code Lib.MathLoose.min_long.x Lib.MathLoose.min_long.code 4 (some .long)) zw_X6_held_540) (Nat.le_of_ble_eq_true rfl) (Nat.le_of_ble_eq_true rfl) (Nat.le_of_ble_eq_true rfl) (Nat.le_of_ble_eq_true rfl) dX6_held_7 ?_
  refine va_mmax_long hx hb (by rw [hml]; exact hl.1.symm) hown (hts (.methodLink RX6 63 Lib.MathLoose.max_long.x) zw_X6_held_541) (hts (.static Lib.MathLoose.max_long.x) zw_X6_held_542) (hts (.initialized "java/lang/Math") zw_X6_held_539) (hts (.code Lib.MathLoose.max_long.x Lib.MathLoose.max_long.code 4 (some .long)) zw_X6_held_543) (Nat.le_of_ble_eq_true rfl) (Nat.le_of_ble_eq_true rfl) (Nat.le_of_ble_eq_true rfl) (Nat.le_of_ble_eq_true rfl) dX6_held_10 ?_
  refine lv_topl (fun x_1 ex_1 => ?_)
  have hfn := zn_s hfn ex_1
  have ho := Option.some.inj hfn
  subst ho
  exact zrl hx hb hr hK hP hD hS hQ rfl hlocks dX6_held_13
theorem zn_X6_isWide_X6 : ∀ w ∈ wsX60, w ∈ wsX6_isWide := fun _ h => List.mem_cons_of_mem _ (List.mem_append_right _ h)
theorem zw_X6_isWide_548 : Cond.fieldLink RX6 18 "ShortEnough$Ranges" "wide" "[Z" ∈ wsX6_isWide := List.mem_of_getElem? (i := 1) (by decide +kernel)
set_option maxHeartbeats 4000000 in
set_option maxRecDepth 100000 in
theorem zf_X6_isWide (l : Launch) (dC : Nat → ClassId) (dI : Nat → Nat → Nat) (h0 : Nat) (p1 : Int32) (r0_0 : Nat) (r0_1 : Nat) (r0_2 : Nat) (k1 : Nat) (f1 : Nat → Int32) (o : Int32) (hfn : fn_X6_isWide p1 f1 = some o) (sz : Nat) : zMi l yX6_isWide wsX6_isWide ({ frames := 0, cells := 0, slots := 0, locals := 0 }) (dC, dI) vwCl [.ref h0, .int p1] [zV6 h0 r0_0 r0_1 r0_2, zVi r0_2 k1 14 f1] [(k1, .boolean)] (fun r _ => r = o ∧ narrow .boolean (.int o) = .int o) [zV6 h0 r0_0 r0_1 r0_2, zVi r0_2 k1 14 f1] [(k1, .boolean)] sz := by
  refine zgoi (cc := cX6_isWide) (maxL := 2) (ret := (some .boolean)) (C0 := RX6) (lv0 := [(0, .ref h0), (1, .int p1)]) zpl_X6 rfl rfl rfl (Nat.le_of_ble_eq_true rfl) ?_
  intro p e s m below meth c A ls Q hx hb hr hts hown hlocks hml hP hK hD hA hS hl hQ
  unfold fn_X6_isWide at hfn
  refine lv_iload_n hx hb dX6_isWide_0 rfl (lv_at hl 1 rfl) ?_
  refine lv_if_lt (tgt := 23) hx hb dX6_isWide_1 (of_decide_eq_true rfl) (fun c_1 => ?_) (fun c_1 => ?_)
  · have hfn := (if_pos c_1).symm.trans hfn
    refine lv_iconst (v := 0) hx hb dX6_isWide_23 zci_0 ?_
    have ho := Option.some.inj hfn
    subst ho
    exact zrz hx hb hr rfl hK hP hD hS hQ ⟨rfl, zB0⟩ hlocks dX6_isWide_24
  have hfn := (if_neg c_1).symm.trans hfn
  refine lv_iload_n hx hb dX6_isWide_4 rfl (lv_at hl 1 rfl) ?_
  refine lv_bipush (v := 14) hx hb dX6_isWide_5 zcb_14 ?_
  refine lv_icmp_ge (tgt := 23) hx hb dX6_isWide_7 (of_decide_eq_true rfl) (fun c_2 => ?_) (fun c_2 => ?_)
  · have hfn := (if_pos c_2).symm.trans hfn
    refine lv_iconst (v := 0) hx hb dX6_isWide_23 zci_0 ?_
    have ho := Option.some.inj hfn
    subst ho
    exact zrz hx hb hr rfl hK hP hD hS hQ ⟨rfl, zB0⟩ hlocks dX6_isWide_24
  have hfn := (if_neg c_2).symm.trans hfn
  refine lv_aload_n hx hb dX6_isWide_10 rfl (lv_at hl 0 rfl) ?_
  refine va_get (D := (dC, dI)) (ci := 6) (v := .ref r0_2) (C := RX6) (T := TX6) (N := 3) hx hb hts zn_X6_isWide_X6 hown hK hP 0 rfl rfl 2 (of_decide_eq_true rfl) (hts (.fieldLink RX6 18 "ShortEnough$Ranges" "wide" "[Z") zw_X6_isWide_548) (fun _ h9 => h9) rfl dX6_isWide_11 ?_
  refine lv_iload_n hx hb dX6_isWide_14 rfl (lv_at hl 1 rfl) ?_
  obtain ⟨h_3, hfn⟩ := zg_s hfn
  refine va_zald hx hb hK hP 1 0 rfl rfl h_3 dX6_isWide_15 ?_
  refine lv_if_eq (tgt := 23) hx hb dX6_isWide_16 (of_decide_eq_true rfl) (fun c_4 => ?_) (fun c_4 => ?_)
  · have hfn := (if_pos c_4).symm.trans hfn
    refine lv_iconst (v := 0) hx hb dX6_isWide_23 zci_0 ?_
    have ho := Option.some.inj hfn
    subst ho
    exact zrz hx hb hr rfl hK hP hD hS hQ ⟨rfl, zB0⟩ hlocks dX6_isWide_24
  have hfn := (if_neg c_4).symm.trans hfn
  refine lv_iconst (v := 1) hx hb dX6_isWide_19 zci_1 ?_
  refine lv_goto (tgt := 24) hx hb dX6_isWide_20 (of_decide_eq_true rfl) ?_
  have ho := Option.some.inj hfn
  subst ho
  exact zrz hx hb hr rfl hK hP hD hS hQ ⟨rfl, zB1⟩ hlocks dX6_isWide_24
theorem zn_X6_fill_X4 : ∀ w ∈ wsX40, w ∈ wsX6_fill := fun _ h => List.mem_cons_of_mem _ (List.mem_append_left _ (List.mem_append_right _ h))
theorem zw_X6_fill_532 : Cond.fieldLink RX6 22 "ShortEnough$Numbers" "count" "I" ∈ wsX6_fill := List.mem_of_getElem? (i := 1) (by decide +kernel)
theorem zn_X6_fill_X6 : ∀ w ∈ wsX60, w ∈ wsX6_fill := fun _ h => List.mem_cons_of_mem _ (List.mem_append_right _ h)
theorem zw_X6_fill_534 : Cond.fieldLink RX6 9 "ShortEnough$Ranges" "low" "[J" ∈ wsX6_fill := List.mem_of_getElem? (i := 2) (by decide +kernel)
theorem zw_X6_fill_544 : Cond.fieldLink RX6 15 "ShortEnough$Ranges" "high" "[J" ∈ wsX6_fill := List.mem_of_getElem? (i := 3) (by decide +kernel)
theorem zw_X6_fill_545 : Cond.fieldLink RX6 18 "ShortEnough$Ranges" "wide" "[Z" ∈ wsX6_fill := List.mem_of_getElem? (i := 4) (by decide +kernel)
theorem zw_X6_fill_546 : Cond.constantLong RX6 43 (1000000000) ∈ wsX6_fill := List.mem_of_getElem? (i := 5) (by decide +kernel)
set_option maxHeartbeats 4000000 in
set_option maxRecDepth 100000 in
theorem zf_X6_fill (l : Launch) (dC : Nat → ClassId) (dI : Nat → Nat → Nat) (h0 : Nat) (h1 : Nat) (p2 : Int32) (p3 : Int32) (r0_0 : Nat) (r0_1 : Nat) (r0_2 : Nat) (v1_0 : Int32) (v1_1 : Int32) (r1_2 : Nat) (r1_3 : Nat) (r1_4 : Nat) (r1_5 : Nat) (r1_6 : Nat) (r1_7 : Nat) (r1_8 : Nat) (r1_9 : Nat) (k2 : Nat) (f2 : Nat → Int32) (k3 : Nat) (f3 : Nat → Int32) (k4 : Nat) (f4 : Nat → Int32) (k5 : Nat) (f5 : Nat → Int64) (k6 : Nat) (f6 : Nat → Int64) (k7 : Nat) (f7 : Nat → Int32) (o : (Nat → Int64) × (Nat → Int64) × (Nat → Int32)) (hfn : fn_X6_fill p2 p3 v1_0 f2 f3 f4 f5 f6 f7 = some o) (sz : Nat) : zNv [(RX6, 83, yX11_apply, RX11)] l yX6_fill wsX6_fill ({ frames := 5, cells := 0, slots := 0, locals := 134 }) (dC, dI) vwCl [.ref h0, .ref h1, .int p2, .int p3] [zV6 h0 r0_0 r0_1 r0_2, zV4 h1 v1_0 v1_1 r1_2 r1_3 r1_4 r1_5 r1_6 r1_7 r1_8 r1_9, zVi r1_3 k2 14 f2, zVi r1_8 k3 28 f3, zVi r1_9 k4 28 f4, zVl r0_0 k5 14 f5, zVl r0_1 k6 14 f6, zVi r0_2 k7 14 f7] [(k2, .int), (k3, .int), (k4, .int), (k5, .long), (k6, .long), (k7, .boolean)] (fun _ => True) [zV6 h0 r0_0 r0_1 r0_2, zV4 h1 v1_0 v1_1 r1_2 r1_3 r1_4 r1_5 r1_6 r1_7 r1_8 r1_9, zVi r1_3 k2 14 f2, zVi r1_8 k3 28 f3, zVi r1_9 k4 28 f4, zVl r0_0 k5 14 o.1, zVl r0_1 k6 14 o.2.1, zVi r0_2 k7 14 o.2.2] [(k2, .int), (k3, .int), (k4, .int), (k5, .long), (k6, .long), (k7, .boolean)] sz := by
  refine zgoNv (cc := cX6_fill) (maxL := 7) (ret := none) (C0 := RX6) (lv0 := [(0, .ref h0), (1, .ref h1), (2, .int p2), (3, .int p3)]) zpl_X6 rfl rfl rfl (Nat.le_of_ble_eq_true rfl) ?_
  intro p e s m below meth c A ls Q hN hx hb hr hts hown hlocks hml hP hK hD hA hS hl hQ
  have hn0 : va_Nw (.methodLinkNest RX6 83 yX11_apply RX11) s := hN.1
  unfold fn_X6_fill at hfn
  refine lv_iconst (v := 0) hx hb dX6_fill_0 zci_0 ?_
  refine lv_istore (lv' := [(4, .int 0), (0, .ref h0), (1, .ref h1), (2, .int p2), (3, .int p3)]) hx hb dX6_fill_1 hl (of_decide_eq_true rfl) rfl (fun ls hl => ?_)
  obtain ⟨bd_1, ebd_1, hfn⟩ := zl_g hfn
  have lp_1 : ∀ (n : Nat) (s_1 : Int32 × (Nat → Int64) × (Nat → Int64) × (Nat → Int32)) (H : Heap) (locs : List Loc) (ls : Array Slot), zl bd_1 n s_1 = some o → va_P (dC, dI) vwCl [zV6 h0 r0_0 r0_1 r0_2, zV4 h1 v1_0 v1_1 r1_2 r1_3 r1_4 r1_5 r1_6 r1_7 r1_8 r1_9, zVi r1_3 k2 14 f2, zVi r1_8 k3 28 f3, zVi r1_9 k4 28 f4, zVl r0_0 k5 14 s_1.2.1, zVl r0_1 k6 14 s_1.2.2.1, zVi r0_2 k7 14 s_1.2.2.2] H → va_D A [zV6 h0 r0_0 r0_1 r0_2, zV4 h1 v1_0 v1_1 r1_2 r1_3 r1_4 r1_5 r1_6 r1_7 r1_8 r1_9, zVi r1_3 k2 14 f2, zVi r1_8 k3 28 f3, zVi r1_9 k4 28 f4, zVl r0_0 k5 14 s_1.2.1, zVl r0_1 k6 14 s_1.2.2.1, zVi r0_2 k7 14 s_1.2.2.2] → va_S A s.heap H locs → lv_has ls 7 [(4, .int s_1.1), (0, .ref h0), (1, .ref h1), (2, .int p2), (3, .int p3)] → W p l e (headSpec wsX6_fill ({ frames := 5, cells := 0, slots := 0, locals := 134 })).room s m ([.ref h0, .ref h1, .int p2, .int p3] : List Value).toArray below meth c H locs 0 0 Q (F0 m 3 ls []) := by
    intro n
    induction n with
    | zero => exact fun _ _ _ _ hfn => (zl_0 hfn).elim
    | succ n ih_1 =>
      intro s_1 H locs ls hfn hP hD hS hl
      have hfn := zl_s ebd_1 hfn
      refine lv_iload hx hb dX6_fill_3 (lv_at hl 0 rfl) ?_
      refine lv_aload_n hx hb dX6_fill_5 rfl (lv_at hl 2 rfl) ?_
      refine va_get (D := (dC, dI)) (ci := 4) (v := .int v1_0) (C := RX4) (T := TX4) (N := 10) hx hb hts zn_X6_fill_X4 hown hK hP 1 rfl rfl 0 (of_decide_eq_true rfl) (hts (.fieldLink RX6 22 "ShortEnough$Numbers" "count" "I") zw_X6_fill_532) (fun _ h9 => h9) rfl dX6_fill_6 ?_
      refine lv_icmp_ge (tgt := 125) hx hb dX6_fill_9 (of_decide_eq_true rfl) (fun c_2 => ?_) (fun c_2 => ?_)
      · have hfn := (if_pos c_2).symm.trans hfn
        have ho := Option.some.inj hfn
        subst ho
        exact zrv hx hb hr hK hP hD hS hQ trivial hlocks dX6_fill_125
      have hfn := (if_neg c_2).symm.trans hfn
      refine lv_iload hx hb dX6_fill_12 (lv_at hl 0 rfl) ?_
      refine lv_iload_n hx hb dX6_fill_14 rfl (lv_at hl 3 rfl) ?_
      obtain ⟨j_3, ej_3, hfn⟩ := zj_g hfn
      have jp_3 : ∀ (s_3 : Int64) (H : Heap) (locs : List Loc) (ls : Array Slot), j_3 s_3 = some o → va_P (dC, dI) vwCl [zV6 h0 r0_0 r0_1 r0_2, zV4 h1 v1_0 v1_1 r1_2 r1_3 r1_4 r1_5 r1_6 r1_7 r1_8 r1_9, zVi r1_3 k2 14 f2, zVi r1_8 k3 28 f3, zVi r1_9 k4 28 f4, zVl r0_0 k5 14 s_1.2.1, zVl r0_1 k6 14 s_1.2.2.1, zVi r0_2 k7 14 s_1.2.2.2] H → va_D A [zV6 h0 r0_0 r0_1 r0_2, zV4 h1 v1_0 v1_1 r1_2 r1_3 r1_4 r1_5 r1_6 r1_7 r1_8 r1_9, zVi r1_3 k2 14 f2, zVi r1_8 k3 28 f3, zVi r1_9 k4 28 f4, zVl r0_0 k5 14 s_1.2.1, zVl r0_1 k6 14 s_1.2.2.1, zVi r0_2 k7 14 s_1.2.2.2] → va_S A s.heap H locs → lv_has ls 7 [(4, .int s_1.1), (0, .ref h0), (1, .ref h1), (2, .int p2), (3, .int p3)] → W p l e (headSpec wsX6_fill ({ frames := 5, cells := 0, slots := 0, locals := 134 })).room s m ([.ref h0, .ref h1, .int p2, .int p3] : List Value).toArray below meth c H locs 0 0 Q (F0 m 24 ls [.long s_3]) := by
        intro s_3 H locs ls hfn hP hD hS hl
        have hfn := zj_s ej_3 hfn
        refine lv_lstore (lv' := [(5, .long s_3), (4, .int s_1.1), (0, .ref h0), (1, .ref h1), (2, .int p2), (3, .int p3)]) hx hb dX6_fill_24 hl (of_decide_eq_true rfl) rfl (fun ls hl => ?_)
        refine lv_aload_n hx hb dX6_fill_26 rfl (lv_at hl 2 rfl) ?_
        refine va_get (D := (dC, dI)) (ci := 6) (v := .ref r0_0) (C := RX6) (T := TX6) (N := 3) hx hb hts zn_X6_fill_X6 hown hK hP 0 rfl rfl 0 (of_decide_eq_true rfl) (hts (.fieldLink RX6 9 "ShortEnough$Ranges" "low" "[J") zw_X6_fill_534) (fun _ h9 => h9) rfl dX6_fill_27 ?_
        refine lv_iload hx hb dX6_fill_30 (lv_at hl 1 rfl) ?_
        refine lv_aload_n hx hb dX6_fill_32 rfl (lv_at hl 2 rfl) ?_
        refine lv_aload_n hx hb dX6_fill_33 rfl (lv_at hl 3 rfl) ?_
        refine lv_iload hx hb dX6_fill_34 (lv_at hl 1 rfl) ?_
        obtain ⟨o_4, hqo_4, hfn⟩ := zb_s hfn
        refine zcNVl (ci := 6) (rest := [.int s_1.1, .ref r0_0]) (pc' := 39) (ws' := [zV6 h0 r0_0 r0_1 r0_2, zV4 h1 v1_0 v1_1 r1_2 r1_3 r1_4 r1_5 r1_6 r1_7 r1_8 r1_9, zVi r1_3 k2 14 f2, zVi r1_8 k3 28 f3, zVi r1_9 k4 28 f4, zVl r0_0 k5 14 s_1.2.1, zVl r0_1 k6 14 s_1.2.2.1, zVi r0_2 k7 14 s_1.2.2.2]) hP hK hD hS hA ⟨hx, hb, hml, hown, hts⟩ (zf_X6_lowest l dC dI h0 h1 s_1.1 r0_0 r0_1 r0_2 v1_0 v1_1 r1_2 r1_3 r1_4 r1_5 r1_6 r1_7 r1_8 r1_9 k2 f2 k3 f3 k4 f4 k5 s_1.2.1 k6 s_1.2.2.1 o_4 hqo_4 H.size) ⟨hn0, trivial⟩ (cwV 2 hts gX6_fill_X6_lowest rfl rfl rfl zhd_X6_lowest ⟨Nat.le_of_ble_eq_true rfl, Nat.le_of_ble_eq_true rfl⟩) [0, 1, 2, 3, 4, 5, 6] rfl (of_decide_eq_true rfl) [0, 1, 2, 3, 4] rfl rfl rfl rfl hl.1 rfl (Nat.le_of_ble_eq_true rfl) dX6_fill_36 ⟨Nat.le_of_ble_eq_true rfl, Nat.le_of_ble_eq_true rfl⟩ [some 0, some 1, some 2, some 3, some 4, some 5, some 6] (of_decide_eq_true rfl) (of_decide_eq_true rfl) rfl rfl rfl (fun H locs hP hD hS => ?_)
        refine lv_lload hx hb dX6_fill_39 (lv_at hl 0 rfl) ?_
        refine lv_lsub hx hb dX6_fill_41 ?_
        obtain ⟨o_8, hqo_8, hfn⟩ := zb_s hfn
        refine zcSl (rest := [.int s_1.1, .ref r0_0]) (pc' := 45) (ws' := [zV6 h0 r0_0 r0_1 r0_2, zV4 h1 v1_0 v1_1 r1_2 r1_3 r1_4 r1_5 r1_6 r1_7 r1_8 r1_9, zVi r1_3 k2 14 f2, zVi r1_8 k3 28 f3, zVi r1_9 k4 28 f4, zVl r0_0 k5 14 s_1.2.1, zVl r0_1 k6 14 s_1.2.2.1, zVi r0_2 k7 14 s_1.2.2.2]) hP hK hD hS hA ⟨hx, hb, hml, hown, hts⟩ (zf_X6_held l dC dI (o_4 - s_3) o_8 hqo_8 H.size) (va_cwS 1 hts gX6_fill_X6_held rfl rfl rfl zhd_X6_held.2 ⟨Nat.le_of_ble_eq_true rfl, Nat.le_of_ble_eq_true rfl⟩) [] rfl (of_decide_eq_true rfl) [] rfl rfl hl.1 rfl (Nat.le_of_ble_eq_true rfl) dX6_fill_42 ⟨Nat.le_of_ble_eq_true rfl, Nat.le_of_ble_eq_true rfl⟩ [] (of_decide_eq_true rfl) (of_decide_eq_true rfl) rfl rfl rfl (fun H locs hP hD hS => ?_)
        obtain ⟨h_12, hfn⟩ := zg_s hfn
        refine va_last hx hb hK hP hD hS 5 3 rfl rfl h_12 dX6_fill_45 (fun H locs hP hD hS => ?_)
        have hP : va_P (dC, dI) vwCl [zV6 h0 r0_0 r0_1 r0_2, zV4 h1 v1_0 v1_1 r1_2 r1_3 r1_4 r1_5 r1_6 r1_7 r1_8 r1_9, zVi r1_3 k2 14 f2, zVi r1_8 k3 28 f3, zVi r1_9 k4 28 f4, zVl r0_0 k5 14 (vp_updL s_1.2.1 s_1.1.toNatClampNeg o_8), zVl r0_1 k6 14 s_1.2.2.1, zVi r0_2 k7 14 s_1.2.2.2] H := hP
        have hD := zDW hD hP rfl
        refine lv_aload_n hx hb dX6_fill_46 rfl (lv_at hl 2 rfl) ?_
        refine va_get (D := (dC, dI)) (ci := 6) (v := .ref r0_1) (C := RX6) (T := TX6) (N := 3) hx hb hts zn_X6_fill_X6 hown hK hP 0 rfl rfl 1 (of_decide_eq_true rfl) (hts (.fieldLink RX6 15 "ShortEnough$Ranges" "high" "[J") zw_X6_fill_544) (fun _ h9 => h9) rfl dX6_fill_47 ?_
        refine lv_iload hx hb dX6_fill_50 (lv_at hl 1 rfl) ?_
        refine lv_aload_n hx hb dX6_fill_52 rfl (lv_at hl 2 rfl) ?_
        refine lv_aload_n hx hb dX6_fill_53 rfl (lv_at hl 3 rfl) ?_
        refine lv_iload hx hb dX6_fill_54 (lv_at hl 1 rfl) ?_
        obtain ⟨o_13, hqo_13, hfn⟩ := zb_s hfn
        refine zcNVl (ci := 6) (rest := [.int s_1.1, .ref r0_1]) (pc' := 59) (ws' := [zV6 h0 r0_0 r0_1 r0_2, zV4 h1 v1_0 v1_1 r1_2 r1_3 r1_4 r1_5 r1_6 r1_7 r1_8 r1_9, zVi r1_3 k2 14 f2, zVi r1_8 k3 28 f3, zVi r1_9 k4 28 f4, zVl r0_0 k5 14 (vp_updL s_1.2.1 s_1.1.toNatClampNeg o_8), zVl r0_1 k6 14 s_1.2.2.1, zVi r0_2 k7 14 s_1.2.2.2]) hP hK hD hS hA ⟨hx, hb, hml, hown, hts⟩ (zf_X6_highest l dC dI h0 h1 s_1.1 r0_0 r0_1 r0_2 v1_0 v1_1 r1_2 r1_3 r1_4 r1_5 r1_6 r1_7 r1_8 r1_9 k2 f2 k3 f3 k4 f4 k6 s_1.2.2.1 k5 (vp_updL s_1.2.1 s_1.1.toNatClampNeg o_8) o_13 hqo_13 H.size) ⟨hn0, trivial⟩ (cwV 2 hts gX6_fill_X6_highest rfl rfl rfl zhd_X6_highest ⟨Nat.le_of_ble_eq_true rfl, Nat.le_of_ble_eq_true rfl⟩) [0, 1, 2, 3, 4, 6, 5] rfl (of_decide_eq_true rfl) [0, 1, 2, 4, 3] rfl rfl rfl rfl hl.1 rfl (Nat.le_of_ble_eq_true rfl) dX6_fill_56 ⟨Nat.le_of_ble_eq_true rfl, Nat.le_of_ble_eq_true rfl⟩ [some 0, some 1, some 2, some 3, some 4, some 6, some 5] (of_decide_eq_true rfl) (of_decide_eq_true rfl) rfl rfl rfl (fun H locs hP hD hS => ?_)
        refine lv_lload hx hb dX6_fill_59 (lv_at hl 0 rfl) ?_
        refine lv_ladd hx hb dX6_fill_61 ?_
        obtain ⟨o_17, hqo_17, hfn⟩ := zb_s hfn
        refine zcSl (rest := [.int s_1.1, .ref r0_1]) (pc' := 65) (ws' := [zV6 h0 r0_0 r0_1 r0_2, zV4 h1 v1_0 v1_1 r1_2 r1_3 r1_4 r1_5 r1_6 r1_7 r1_8 r1_9, zVi r1_3 k2 14 f2, zVi r1_8 k3 28 f3, zVi r1_9 k4 28 f4, zVl r0_0 k5 14 (vp_updL s_1.2.1 s_1.1.toNatClampNeg o_8), zVl r0_1 k6 14 s_1.2.2.1, zVi r0_2 k7 14 s_1.2.2.2]) hP hK hD hS hA ⟨hx, hb, hml, hown, hts⟩ (zf_X6_held l dC dI (o_13 + s_3) o_17 hqo_17 H.size) (va_cwS 1 hts gX6_fill_X6_held rfl rfl rfl zhd_X6_held.2 ⟨Nat.le_of_ble_eq_true rfl, Nat.le_of_ble_eq_true rfl⟩) [] rfl (of_decide_eq_true rfl) [] rfl rfl hl.1 rfl (Nat.le_of_ble_eq_true rfl) dX6_fill_62 ⟨Nat.le_of_ble_eq_true rfl, Nat.le_of_ble_eq_true rfl⟩ [] (of_decide_eq_true rfl) (of_decide_eq_true rfl) rfl rfl rfl (fun H locs hP hD hS => ?_)
        refine va_last hx hb hK hP hD hS 6 4 rfl rfl h_12 dX6_fill_65 (fun H locs hP hD hS => ?_)
        have hP : va_P (dC, dI) vwCl [zV6 h0 r0_0 r0_1 r0_2, zV4 h1 v1_0 v1_1 r1_2 r1_3 r1_4 r1_5 r1_6 r1_7 r1_8 r1_9, zVi r1_3 k2 14 f2, zVi r1_8 k3 28 f3, zVi r1_9 k4 28 f4, zVl r0_0 k5 14 (vp_updL s_1.2.1 s_1.1.toNatClampNeg o_8), zVl r0_1 k6 14 (vp_updL s_1.2.2.1 s_1.1.toNatClampNeg o_17), zVi r0_2 k7 14 s_1.2.2.2] H := hP
        have hD := zDW hD hP rfl
        refine lv_aload_n hx hb dX6_fill_66 rfl (lv_at hl 2 rfl) ?_
        refine va_get (D := (dC, dI)) (ci := 6) (v := .ref r0_2) (C := RX6) (T := TX6) (N := 3) hx hb hts zn_X6_fill_X6 hown hK hP 0 rfl rfl 2 (of_decide_eq_true rfl) (hts (.fieldLink RX6 18 "ShortEnough$Ranges" "wide" "[Z") zw_X6_fill_545) (fun _ h9 => h9) rfl dX6_fill_67 ?_
        refine lv_iload hx hb dX6_fill_70 (lv_at hl 1 rfl) ?_
        refine lv_aload_n hx hb dX6_fill_72 rfl (lv_at hl 2 rfl) ?_
        refine lv_iload hx hb dX6_fill_73 (lv_at hl 1 rfl) ?_
        obtain ⟨o_21, hqo_21, hfn⟩ := zb_s hfn
        refine zcVl (ci := 6) (rest := [.int s_1.1, .ref r0_2]) (pc' := 78) (ws' := [zV6 h0 r0_0 r0_1 r0_2, zV4 h1 v1_0 v1_1 r1_2 r1_3 r1_4 r1_5 r1_6 r1_7 r1_8 r1_9, zVi r1_3 k2 14 f2, zVi r1_8 k3 28 f3, zVi r1_9 k4 28 f4, zVl r0_0 k5 14 (vp_updL s_1.2.1 s_1.1.toNatClampNeg o_8), zVl r0_1 k6 14 (vp_updL s_1.2.2.1 s_1.1.toNatClampNeg o_17), zVi r0_2 k7 14 s_1.2.2.2]) hP hK hD hS hA ⟨hx, hb, hml, hown, hts⟩ (zf_X6_amountOf l dC dI h0 s_1.1 r0_0 r0_1 r0_2 k5 (vp_updL s_1.2.1 s_1.1.toNatClampNeg o_8) k6 (vp_updL s_1.2.2.1 s_1.1.toNatClampNeg o_17) o_21 hqo_21 H.size) (cwV 1 hts gX6_fill_X6_amountOf rfl rfl rfl zhd_X6_amountOf ⟨Nat.le_of_ble_eq_true rfl, Nat.le_of_ble_eq_true rfl⟩) [0, 5, 6] rfl (of_decide_eq_true rfl) [3, 4] rfl rfl rfl rfl hl.1 rfl (Nat.le_of_ble_eq_true rfl) dX6_fill_75 ⟨Nat.le_of_ble_eq_true rfl, Nat.le_of_ble_eq_true rfl⟩ [some 0, none, none, none, none, some 1, some 2] (of_decide_eq_true rfl) (of_decide_eq_true rfl) rfl rfl rfl (fun H locs hP hD hS => ?_)
        refine lv_ldc2 (v := 1000000000) hx hb hown (hts (.constantLong RX6 43 (1000000000)) zw_X6_fill_546) dX6_fill_78 ?_
        refine W.lcmp hx hb dX6_fill_81 ?_
        refine lv_if_gt (tgt := 113) hx hb dX6_fill_82 (of_decide_eq_true rfl) (fun c_25 => ?_) (fun c_25 => ?_)
        · have hfn := (if_pos c_25).symm.trans hfn
          refine lv_iconst (v := 1) hx hb dX6_fill_113 zci_1 ?_
          refine lv_goto (tgt := 118) hx hb dX6_fill_114 (of_decide_eq_true rfl) ?_
          refine va_zast hx hb hK hP hD hS 7 5 rfl rfl h_12 dX6_fill_118 (fun H locs hP hD hS => ?_)
          have hP : va_P (dC, dI) vwCl [zV6 h0 r0_0 r0_1 r0_2, zV4 h1 v1_0 v1_1 r1_2 r1_3 r1_4 r1_5 r1_6 r1_7 r1_8 r1_9, zVi r1_3 k2 14 f2, zVi r1_8 k3 28 f3, zVi r1_9 k4 28 f4, zVl r0_0 k5 14 (vp_updL s_1.2.1 s_1.1.toNatClampNeg o_8), zVl r0_1 k6 14 (vp_updL s_1.2.2.1 s_1.1.toNatClampNeg o_17), zVi r0_2 k7 14 (upd s_1.2.2.2 s_1.1.toNatClampNeg (vp_nar .boolean 1))] H := hP
          have hD := zDW hD hP rfl
          refine lv_iinc (v := (s_1.1 + 1)) (lv' := [(4, .int (s_1.1 + 1)), (5, .long s_3), (0, .ref h0), (1, .ref h1), (2, .int p2), (3, .int p3)]) hx hb dX6_fill_119 hl (k := 1) rfl rfl (of_decide_eq_true rfl) rfl (fun ls hl => ?_)
          refine lv_goto (tgt := 3) hx hb dX6_fill_122 (of_decide_eq_true rfl) ?_
          exact ih_1 ((s_1.1 + 1), (vp_updL s_1.2.1 s_1.1.toNatClampNeg o_8), (vp_updL s_1.2.2.1 s_1.1.toNatClampNeg o_17), (upd s_1.2.2.2 s_1.1.toNatClampNeg (vp_nar .boolean 1))) H locs ls hfn hP hD hS (lv_sub hl [0, 2, 3, 4, 5] rfl)
        have hfn := (if_neg c_25).symm.trans hfn
        refine lv_aload_n hx hb dX6_fill_85 rfl (lv_at hl 2 rfl) ?_
        refine lv_aload_n hx hb dX6_fill_86 rfl (lv_at hl 3 rfl) ?_
        refine lv_iload hx hb dX6_fill_87 (lv_at hl 1 rfl) ?_
        refine lv_iconst (v := 0) hx hb dX6_fill_89 zci_0 ?_
        obtain ⟨o_26, hqo_26, hfn⟩ := zb_s hfn
        refine zcVi (ci := 4) (rest := [.ref h0, .int s_1.1, .ref r0_2]) (pc' := 93) (ws' := [zV6 h0 r0_0 r0_1 r0_2, zV4 h1 v1_0 v1_1 r1_2 r1_3 r1_4 r1_5 r1_6 r1_7 r1_8 r1_9, zVi r1_3 k2 14 f2, zVi r1_8 k3 28 f3, zVi r1_9 k4 28 f4, zVl r0_0 k5 14 (vp_updL s_1.2.1 s_1.1.toNatClampNeg o_8), zVl r0_1 k6 14 (vp_updL s_1.2.2.1 s_1.1.toNatClampNeg o_17), zVi r0_2 k7 14 s_1.2.2.2]) hP hK hD hS hA ⟨hx, hb, hml, hown, hts⟩ (zf_X4_madeOf l dC dI h1 s_1.1 0 v1_0 v1_1 r1_2 r1_3 r1_4 r1_5 r1_6 r1_7 r1_8 r1_9 k3 f3 o_26 hqo_26 H.size) (cwV 2 hts gX6_fill_X4_madeOf rfl rfl rfl zhd_X4_madeOf ⟨Nat.le_of_ble_eq_true rfl, Nat.le_of_ble_eq_true rfl⟩) [1, 3] rfl (of_decide_eq_true rfl) [1] rfl rfl rfl rfl hl.1 rfl (Nat.le_of_ble_eq_true rfl) dX6_fill_90 ⟨Nat.le_of_ble_eq_true rfl, Nat.le_of_ble_eq_true rfl⟩ [none, some 0, none, some 1] (of_decide_eq_true rfl) (of_decide_eq_true rfl) rfl rfl rfl (fun H locs hP hD hS => ?_)
        obtain ⟨o_30, hqo_30, hfn⟩ := zb_s hfn
        refine zcVb (ci := 6) (rest := [.int s_1.1, .ref r0_2]) (pc' := 96) (ws' := [zV6 h0 r0_0 r0_1 r0_2, zV4 h1 v1_0 v1_1 r1_2 r1_3 r1_4 r1_5 r1_6 r1_7 r1_8 r1_9, zVi r1_3 k2 14 f2, zVi r1_8 k3 28 f3, zVi r1_9 k4 28 f4, zVl r0_0 k5 14 (vp_updL s_1.2.1 s_1.1.toNatClampNeg o_8), zVl r0_1 k6 14 (vp_updL s_1.2.2.1 s_1.1.toNatClampNeg o_17), zVi r0_2 k7 14 s_1.2.2.2]) hP hK hD hS hA ⟨hx, hb, hml, hown, hts⟩ (zf_X6_isWide l dC dI h0 o_26 r0_0 r0_1 r0_2 k7 s_1.2.2.2 o_30 hqo_30 H.size) (cwV 1 hts gX6_fill_X6_isWide rfl rfl rfl zhd_X6_isWide ⟨Nat.le_of_ble_eq_true rfl, Nat.le_of_ble_eq_true rfl⟩) [0, 7] rfl (of_decide_eq_true rfl) [5] rfl rfl rfl rfl hl.1 rfl (Nat.le_of_ble_eq_true rfl) dX6_fill_93 ⟨Nat.le_of_ble_eq_true rfl, Nat.le_of_ble_eq_true rfl⟩ [some 0, none, none, none, none, none, none, some 1] (of_decide_eq_true rfl) (of_decide_eq_true rfl) rfl rfl rfl (fun H locs hw_33n hP hD hS => ?_)
        refine lv_if_ne (tgt := 113) hx hb dX6_fill_96 (of_decide_eq_true rfl) (fun c_34 => ?_) (fun c_34 => ?_)
        · have hfn := (if_neg c_34).symm.trans hfn
          refine lv_iconst (v := 1) hx hb dX6_fill_113 zci_1 ?_
          refine lv_goto (tgt := 118) hx hb dX6_fill_114 (of_decide_eq_true rfl) ?_
          refine va_zast hx hb hK hP hD hS 7 5 rfl rfl h_12 dX6_fill_118 (fun H locs hP hD hS => ?_)
          have hP : va_P (dC, dI) vwCl [zV6 h0 r0_0 r0_1 r0_2, zV4 h1 v1_0 v1_1 r1_2 r1_3 r1_4 r1_5 r1_6 r1_7 r1_8 r1_9, zVi r1_3 k2 14 f2, zVi r1_8 k3 28 f3, zVi r1_9 k4 28 f4, zVl r0_0 k5 14 (vp_updL s_1.2.1 s_1.1.toNatClampNeg o_8), zVl r0_1 k6 14 (vp_updL s_1.2.2.1 s_1.1.toNatClampNeg o_17), zVi r0_2 k7 14 (upd s_1.2.2.2 s_1.1.toNatClampNeg (vp_nar .boolean 1))] H := hP
          have hD := zDW hD hP rfl
          refine lv_iinc (v := (s_1.1 + 1)) (lv' := [(4, .int (s_1.1 + 1)), (5, .long s_3), (0, .ref h0), (1, .ref h1), (2, .int p2), (3, .int p3)]) hx hb dX6_fill_119 hl (k := 1) rfl rfl (of_decide_eq_true rfl) rfl (fun ls hl => ?_)
          refine lv_goto (tgt := 3) hx hb dX6_fill_122 (of_decide_eq_true rfl) ?_
          exact ih_1 ((s_1.1 + 1), (vp_updL s_1.2.1 s_1.1.toNatClampNeg o_8), (vp_updL s_1.2.2.1 s_1.1.toNatClampNeg o_17), (upd s_1.2.2.2 s_1.1.toNatClampNeg (vp_nar .boolean 1))) H locs ls hfn hP hD hS (lv_sub hl [0, 2, 3, 4, 5] rfl)
        have hfn := (if_pos c_34).symm.trans hfn
        refine lv_aload_n hx hb dX6_fill_99 rfl (lv_at hl 2 rfl) ?_
        refine lv_aload_n hx hb dX6_fill_100 rfl (lv_at hl 3 rfl) ?_
        refine lv_iload hx hb dX6_fill_101 (lv_at hl 1 rfl) ?_
        refine lv_iconst (v := 1) hx hb dX6_fill_103 zci_1 ?_
        obtain ⟨o_35, hqo_35, hfn⟩ := zb_s hfn
        refine zcVi (ci := 4) (rest := [.ref h0, .int s_1.1, .ref r0_2]) (pc' := 107) (ws' := [zV6 h0 r0_0 r0_1 r0_2, zV4 h1 v1_0 v1_1 r1_2 r1_3 r1_4 r1_5 r1_6 r1_7 r1_8 r1_9, zVi r1_3 k2 14 f2, zVi r1_8 k3 28 f3, zVi r1_9 k4 28 f4, zVl r0_0 k5 14 (vp_updL s_1.2.1 s_1.1.toNatClampNeg o_8), zVl r0_1 k6 14 (vp_updL s_1.2.2.1 s_1.1.toNatClampNeg o_17), zVi r0_2 k7 14 s_1.2.2.2]) hP hK hD hS hA ⟨hx, hb, hml, hown, hts⟩ (zf_X4_madeOf l dC dI h1 s_1.1 1 v1_0 v1_1 r1_2 r1_3 r1_4 r1_5 r1_6 r1_7 r1_8 r1_9 k3 f3 o_35 hqo_35 H.size) (cwV 2 hts gX6_fill_X4_madeOf rfl rfl rfl zhd_X4_madeOf ⟨Nat.le_of_ble_eq_true rfl, Nat.le_of_ble_eq_true rfl⟩) [1, 3] rfl (of_decide_eq_true rfl) [1] rfl rfl rfl rfl hl.1 rfl (Nat.le_of_ble_eq_true rfl) dX6_fill_104 ⟨Nat.le_of_ble_eq_true rfl, Nat.le_of_ble_eq_true rfl⟩ [none, some 0, none, some 1] (of_decide_eq_true rfl) (of_decide_eq_true rfl) rfl rfl rfl (fun H locs hP hD hS => ?_)
        obtain ⟨o_39, hqo_39, hfn⟩ := zb_s hfn
        refine zcVb (ci := 6) (rest := [.int s_1.1, .ref r0_2]) (pc' := 110) (ws' := [zV6 h0 r0_0 r0_1 r0_2, zV4 h1 v1_0 v1_1 r1_2 r1_3 r1_4 r1_5 r1_6 r1_7 r1_8 r1_9, zVi r1_3 k2 14 f2, zVi r1_8 k3 28 f3, zVi r1_9 k4 28 f4, zVl r0_0 k5 14 (vp_updL s_1.2.1 s_1.1.toNatClampNeg o_8), zVl r0_1 k6 14 (vp_updL s_1.2.2.1 s_1.1.toNatClampNeg o_17), zVi r0_2 k7 14 s_1.2.2.2]) hP hK hD hS hA ⟨hx, hb, hml, hown, hts⟩ (zf_X6_isWide l dC dI h0 o_35 r0_0 r0_1 r0_2 k7 s_1.2.2.2 o_39 hqo_39 H.size) (cwV 1 hts gX6_fill_X6_isWide rfl rfl rfl zhd_X6_isWide ⟨Nat.le_of_ble_eq_true rfl, Nat.le_of_ble_eq_true rfl⟩) [0, 7] rfl (of_decide_eq_true rfl) [5] rfl rfl rfl rfl hl.1 rfl (Nat.le_of_ble_eq_true rfl) dX6_fill_107 ⟨Nat.le_of_ble_eq_true rfl, Nat.le_of_ble_eq_true rfl⟩ [some 0, none, none, none, none, none, none, some 1] (of_decide_eq_true rfl) (of_decide_eq_true rfl) rfl rfl rfl (fun H locs hw_42n hP hD hS => ?_)
        refine lv_if_eq (tgt := 117) hx hb dX6_fill_110 (of_decide_eq_true rfl) (fun c_43 => ?_) (fun c_43 => ?_)
        · have hfn := (if_pos c_43).symm.trans hfn
          refine lv_iconst (v := 0) hx hb dX6_fill_117 zci_0 ?_
          refine va_zast hx hb hK hP hD hS 7 5 rfl rfl h_12 dX6_fill_118 (fun H locs hP hD hS => ?_)
          have hP : va_P (dC, dI) vwCl [zV6 h0 r0_0 r0_1 r0_2, zV4 h1 v1_0 v1_1 r1_2 r1_3 r1_4 r1_5 r1_6 r1_7 r1_8 r1_9, zVi r1_3 k2 14 f2, zVi r1_8 k3 28 f3, zVi r1_9 k4 28 f4, zVl r0_0 k5 14 (vp_updL s_1.2.1 s_1.1.toNatClampNeg o_8), zVl r0_1 k6 14 (vp_updL s_1.2.2.1 s_1.1.toNatClampNeg o_17), zVi r0_2 k7 14 (upd s_1.2.2.2 s_1.1.toNatClampNeg (vp_nar .boolean 0))] H := hP
          have hD := zDW hD hP rfl
          refine lv_iinc (v := (s_1.1 + 1)) (lv' := [(4, .int (s_1.1 + 1)), (5, .long s_3), (0, .ref h0), (1, .ref h1), (2, .int p2), (3, .int p3)]) hx hb dX6_fill_119 hl (k := 1) rfl rfl (of_decide_eq_true rfl) rfl (fun ls hl => ?_)
          refine lv_goto (tgt := 3) hx hb dX6_fill_122 (of_decide_eq_true rfl) ?_
          exact ih_1 ((s_1.1 + 1), (vp_updL s_1.2.1 s_1.1.toNatClampNeg o_8), (vp_updL s_1.2.2.1 s_1.1.toNatClampNeg o_17), (upd s_1.2.2.2 s_1.1.toNatClampNeg (vp_nar .boolean 0))) H locs ls hfn hP hD hS (lv_sub hl [0, 2, 3, 4, 5] rfl)
        have hfn := (if_neg c_43).symm.trans hfn
        refine lv_iconst (v := 1) hx hb dX6_fill_113 zci_1 ?_
        refine lv_goto (tgt := 118) hx hb dX6_fill_114 (of_decide_eq_true rfl) ?_
        refine va_zast hx hb hK hP hD hS 7 5 rfl rfl h_12 dX6_fill_118 (fun H locs hP hD hS => ?_)
        have hP : va_P (dC, dI) vwCl [zV6 h0 r0_0 r0_1 r0_2, zV4 h1 v1_0 v1_1 r1_2 r1_3 r1_4 r1_5 r1_6 r1_7 r1_8 r1_9, zVi r1_3 k2 14 f2, zVi r1_8 k3 28 f3, zVi r1_9 k4 28 f4, zVl r0_0 k5 14 (vp_updL s_1.2.1 s_1.1.toNatClampNeg o_8), zVl r0_1 k6 14 (vp_updL s_1.2.2.1 s_1.1.toNatClampNeg o_17), zVi r0_2 k7 14 (upd s_1.2.2.2 s_1.1.toNatClampNeg (vp_nar .boolean 1))] H := hP
        have hD := zDW hD hP rfl
        refine lv_iinc (v := (s_1.1 + 1)) (lv' := [(4, .int (s_1.1 + 1)), (5, .long s_3), (0, .ref h0), (1, .ref h1), (2, .int p2), (3, .int p3)]) hx hb dX6_fill_119 hl (k := 1) rfl rfl (of_decide_eq_true rfl) rfl (fun ls hl => ?_)
        refine lv_goto (tgt := 3) hx hb dX6_fill_122 (of_decide_eq_true rfl) ?_
        exact ih_1 ((s_1.1 + 1), (vp_updL s_1.2.1 s_1.1.toNatClampNeg o_8), (vp_updL s_1.2.2.1 s_1.1.toNatClampNeg o_17), (upd s_1.2.2.2 s_1.1.toNatClampNeg (vp_nar .boolean 1))) H locs ls hfn hP hD hS (lv_sub hl [0, 2, 3, 4, 5] rfl)
      refine lv_icmp_ne (tgt := 23) hx hb dX6_fill_15 (of_decide_eq_true rfl) (fun c_44 => ?_) (fun c_44 => ?_)
      · have hfn := (if_neg c_44).symm.trans hfn
        refine lv_lconst (v := 0) hx hb dX6_fill_23 (by decide +kernel) ?_
        exact jp_3 0 H locs ls hfn hP hD hS (lv_sub hl [0, 1, 2, 3, 4] rfl)
      have hfn := (if_pos c_44).symm.trans hfn
      refine lv_iload_n hx hb dX6_fill_18 rfl (lv_at hl 4 rfl) ?_
      refine lv_i2l (v := p3.toInt64) hx hb dX6_fill_19 rfl ?_
      refine lv_goto (tgt := 24) hx hb dX6_fill_20 (of_decide_eq_true rfl) ?_
      exact jp_3 p3.toInt64 H locs ls hfn hP hD hS (lv_sub hl [0, 1, 2, 3, 4] rfl)
  exact lp_1 _ (0, f5, f6, f7) s.heap [] ls hfn hP hD hS (lv_sub hl [0, 1, 2, 3, 4] rfl)
theorem zn_X8_whatOf_X9 : ∀ w ∈ wsX90, w ∈ wsX8_whatOf := fun _ h => List.mem_cons_of_mem _ (List.mem_append_left _ (List.mem_append_right _ h))
theorem zw_X8_whatOf_557 : Cond.fieldLink RX8 18 "ShortEnough$Task" "numbers" "LShortEnough$Numbers;" ∈ wsX8_whatOf := List.mem_of_getElem? (i := 1) (by decide +kernel)
set_option maxHeartbeats 4000000 in
set_option maxRecDepth 100000 in
theorem zf_X8_whatOf (l : Launch) (dC : Nat → ClassId) (dI : Nat → Nat → Nat) (h0 : Nat) (h1 : Nat) (p2 : Int32) (p3 : Int32) (v0_0 : Int32) (r0_1 : Nat) (r0_2 : Nat) (r0_3 : Nat) (r0_4 : Nat) (v0_5 : Int32) (r0_6 : Nat) (r0_7 : Nat) (r0_8 : Nat) (v1_0 : Int32) (v1_1 : Int32) (r1_2 : Nat) (r1_3 : Nat) (r1_4 : Nat) (r1_5 : Nat) (r1_6 : Nat) (r1_7 : Nat) (r1_8 : Nat) (r1_9 : Nat) (k2 : Nat) (f2 : Nat → Int32) (k3 : Nat) (f3 : Nat → Int32) (k4 : Nat) (f4 : Nat → Int64) (o : Int64) (hfn : fn_X8_whatOf p2 p3 v1_0 f2 f3 f4 = some o) (sz : Nat) : zMl l yX8_whatOf wsX8_whatOf ({ frames := 1, cells := 0, slots := 0, locals := 22 }) (dC, dI) vwCl [.ref h0, .ref h1, .int p2, .int p3] [zV9 h0 v0_0 r0_1 r0_2 r0_3 r0_4 v0_5 r0_6 r0_7 r0_8, zV4 r0_6 v1_0 v1_1 r1_2 r1_3 r1_4 r1_5 r1_6 r1_7 r1_8 r1_9, zVi r1_8 k2 28 f2, zVi r1_9 k3 28 f3, zVl h1 k4 14 f4] [(k2, .int), (k3, .int), (k4, .long)] (fun r _ => r = o) [zV9 h0 v0_0 r0_1 r0_2 r0_3 r0_4 v0_5 r0_6 r0_7 r0_8, zV4 r0_6 v1_0 v1_1 r1_2 r1_3 r1_4 r1_5 r1_6 r1_7 r1_8 r1_9, zVi r1_8 k2 28 f2, zVi r1_9 k3 28 f3, zVl h1 k4 14 f4] [(k2, .int), (k3, .int), (k4, .long)] sz := by
  refine zgol (cc := cX8_whatOf) (maxL := 5) (ret := (some .long)) (C0 := RX8) (lv0 := [(0, .ref h0), (1, .ref h1), (2, .int p2), (3, .int p3)]) zpl_X8 rfl rfl rfl (Nat.le_of_ble_eq_true rfl) ?_
  intro p e s m below meth c A ls Q hx hb hr hts hown hlocks hml hP hK hD hA hS hl hQ
  unfold fn_X8_whatOf at hfn
  refine lv_aload_n hx hb dX8_whatOf_0 rfl (lv_at hl 0 rfl) ?_
  refine va_get (D := (dC, dI)) (ci := 9) (v := .ref r0_6) (C := RX9) (T := TX9) (N := 9) hx hb hts zn_X8_whatOf_X9 hown hK hP 0 rfl rfl 6 (of_decide_eq_true rfl) (hts (.fieldLink RX8 18 "ShortEnough$Task" "numbers" "LShortEnough$Numbers;") zw_X8_whatOf_557) (fun _ h9 => h9) rfl dX8_whatOf_1 ?_
  refine lv_iload_n hx hb dX8_whatOf_4 rfl (lv_at hl 2 rfl) ?_
  refine lv_iload_n hx hb dX8_whatOf_5 rfl (lv_at hl 3 rfl) ?_
  obtain ⟨o_1, hqo_1, hfn⟩ := zb_s hfn
  refine zcVi (ci := 4) (rest := []) (pc' := 9) (ws' := [zV9 h0 v0_0 r0_1 r0_2 r0_3 r0_4 v0_5 r0_6 r0_7 r0_8, zV4 r0_6 v1_0 v1_1 r1_2 r1_3 r1_4 r1_5 r1_6 r1_7 r1_8 r1_9, zVi r1_8 k2 28 f2, zVi r1_9 k3 28 f3, zVl h1 k4 14 f4]) hP hK hD hS hA ⟨hx, hb, hml, hown, hts⟩ (zf_X4_madeOf l dC dI r0_6 p2 p3 v1_0 v1_1 r1_2 r1_3 r1_4 r1_5 r1_6 r1_7 r1_8 r1_9 k2 f2 o_1 hqo_1 s.heap.size) (cwV 2 hts gX8_whatOf_X4_madeOf rfl rfl rfl zhd_X4_madeOf ⟨Nat.le_of_ble_eq_true rfl, Nat.le_of_ble_eq_true rfl⟩) [1, 2] rfl (of_decide_eq_true rfl) [0] rfl rfl rfl rfl hl.1 rfl (Nat.le_of_ble_eq_true rfl) dX8_whatOf_6 ⟨Nat.le_of_ble_eq_true rfl, Nat.le_of_ble_eq_true rfl⟩ [none, some 0, some 1] (of_decide_eq_true rfl) (of_decide_eq_true rfl) rfl rfl rfl (fun H locs hP hD hS => ?_)
  refine lv_istore (lv' := [(4, .int o_1), (0, .ref h0), (1, .ref h1), (2, .int p2), (3, .int p3)]) hx hb dX8_whatOf_9 hl (of_decide_eq_true rfl) rfl (fun ls hl => ?_)
  refine lv_iload hx hb dX8_whatOf_11 (lv_at hl 0 rfl) ?_
  refine lv_if_lt (tgt := 29) hx hb dX8_whatOf_13 (of_decide_eq_true rfl) (fun c_5 => ?_) (fun c_5 => ?_)
  · have hfn := (if_pos c_5).symm.trans hfn
    refine lv_aload_n hx hb dX8_whatOf_29 rfl (lv_at hl 1 rfl) ?_
    refine va_get (D := (dC, dI)) (ci := 9) (v := .ref r0_6) (C := RX9) (T := TX9) (N := 9) hx hb hts zn_X8_whatOf_X9 hown hK hP 0 rfl rfl 6 (of_decide_eq_true rfl) (hts (.fieldLink RX8 18 "ShortEnough$Task" "numbers" "LShortEnough$Numbers;") zw_X8_whatOf_557) (fun _ h9 => h9) rfl dX8_whatOf_30 ?_
    refine lv_iload_n hx hb dX8_whatOf_33 rfl (lv_at hl 3 rfl) ?_
    refine lv_iload_n hx hb dX8_whatOf_34 rfl (lv_at hl 4 rfl) ?_
    obtain ⟨o_6, hqo_6, hfn⟩ := zb_s hfn
    refine zcVl (ci := 4) (rest := []) (pc' := 38) (ws' := [zV9 h0 v0_0 r0_1 r0_2 r0_3 r0_4 v0_5 r0_6 r0_7 r0_8, zV4 r0_6 v1_0 v1_1 r1_2 r1_3 r1_4 r1_5 r1_6 r1_7 r1_8 r1_9, zVi r1_8 k2 28 f2, zVi r1_9 k3 28 f3, zVl h1 k4 14 f4]) hP hK hD hS hA ⟨hx, hb, hml, hown, hts⟩ (zf_X4_amountOf l dC dI r0_6 p2 p3 v1_0 v1_1 r1_2 r1_3 r1_4 r1_5 r1_6 r1_7 r1_8 r1_9 k3 f3 o_6 hqo_6 H.size) (cwV 2 hts gX8_whatOf_X4_amountOf rfl rfl rfl zhd_X4_amountOf ⟨Nat.le_of_ble_eq_true rfl, Nat.le_of_ble_eq_true rfl⟩) [1, 3] rfl (of_decide_eq_true rfl) [1] rfl rfl rfl rfl hl.1 rfl (Nat.le_of_ble_eq_true rfl) dX8_whatOf_35 ⟨Nat.le_of_ble_eq_true rfl, Nat.le_of_ble_eq_true rfl⟩ [none, some 0, none, some 1] (of_decide_eq_true rfl) (of_decide_eq_true rfl) rfl rfl rfl (fun H locs hP hD hS => ?_)
    have ho := Option.some.inj hfn
    subst ho
    exact zrl hx hb hr hK hP hD hS hQ rfl hlocks dX8_whatOf_38
  have hfn := (if_neg c_5).symm.trans hfn
  refine lv_iload hx hb dX8_whatOf_16 (lv_at hl 0 rfl) ?_
  refine lv_iload_n hx hb dX8_whatOf_18 rfl (lv_at hl 3 rfl) ?_
  refine lv_icmp_ge (tgt := 29) hx hb dX8_whatOf_19 (of_decide_eq_true rfl) (fun c_10 => ?_) (fun c_10 => ?_)
  · have hfn := (if_pos c_10).symm.trans hfn
    refine lv_aload_n hx hb dX8_whatOf_29 rfl (lv_at hl 1 rfl) ?_
    refine va_get (D := (dC, dI)) (ci := 9) (v := .ref r0_6) (C := RX9) (T := TX9) (N := 9) hx hb hts zn_X8_whatOf_X9 hown hK hP 0 rfl rfl 6 (of_decide_eq_true rfl) (hts (.fieldLink RX8 18 "ShortEnough$Task" "numbers" "LShortEnough$Numbers;") zw_X8_whatOf_557) (fun _ h9 => h9) rfl dX8_whatOf_30 ?_
    refine lv_iload_n hx hb dX8_whatOf_33 rfl (lv_at hl 3 rfl) ?_
    refine lv_iload_n hx hb dX8_whatOf_34 rfl (lv_at hl 4 rfl) ?_
    obtain ⟨o_11, hqo_11, hfn⟩ := zb_s hfn
    refine zcVl (ci := 4) (rest := []) (pc' := 38) (ws' := [zV9 h0 v0_0 r0_1 r0_2 r0_3 r0_4 v0_5 r0_6 r0_7 r0_8, zV4 r0_6 v1_0 v1_1 r1_2 r1_3 r1_4 r1_5 r1_6 r1_7 r1_8 r1_9, zVi r1_8 k2 28 f2, zVi r1_9 k3 28 f3, zVl h1 k4 14 f4]) hP hK hD hS hA ⟨hx, hb, hml, hown, hts⟩ (zf_X4_amountOf l dC dI r0_6 p2 p3 v1_0 v1_1 r1_2 r1_3 r1_4 r1_5 r1_6 r1_7 r1_8 r1_9 k3 f3 o_11 hqo_11 H.size) (cwV 2 hts gX8_whatOf_X4_amountOf rfl rfl rfl zhd_X4_amountOf ⟨Nat.le_of_ble_eq_true rfl, Nat.le_of_ble_eq_true rfl⟩) [1, 3] rfl (of_decide_eq_true rfl) [1] rfl rfl rfl rfl hl.1 rfl (Nat.le_of_ble_eq_true rfl) dX8_whatOf_35 ⟨Nat.le_of_ble_eq_true rfl, Nat.le_of_ble_eq_true rfl⟩ [none, some 0, none, some 1] (of_decide_eq_true rfl) (of_decide_eq_true rfl) rfl rfl rfl (fun H locs hP hD hS => ?_)
    have ho := Option.some.inj hfn
    subst ho
    exact zrl hx hb hr hK hP hD hS hQ rfl hlocks dX8_whatOf_38
  have hfn := (if_neg c_10).symm.trans hfn
  refine lv_aload_n hx hb dX8_whatOf_22 rfl (lv_at hl 2 rfl) ?_
  refine lv_iload hx hb dX8_whatOf_23 (lv_at hl 0 rfl) ?_
  obtain ⟨h_15, hfn⟩ := zg_s hfn
  refine va_lald hx hb hK hP 4 2 rfl rfl h_15 dX8_whatOf_25 ?_
  refine lv_goto (tgt := 38) hx hb dX8_whatOf_26 (of_decide_eq_true rfl) ?_
  have ho := Option.some.inj hfn
  subst ho
  exact zrl hx hb hr hK hP hD hS hQ rfl hlocks dX8_whatOf_38
theorem zn_X8_sample_X9 : ∀ w ∈ wsX90, w ∈ wsX8_sample := fun _ h => List.mem_cons_of_mem _ (List.mem_append_left _ (List.mem_append_left _ (List.mem_append_left _ (List.mem_append_right _ h))))
theorem zw_X8_sample_550 : Cond.fieldLink RX8 18 "ShortEnough$Task" "numbers" "LShortEnough$Numbers;" ∈ wsX8_sample := List.mem_of_getElem? (i := 1) (by decide +kernel)
theorem zn_X8_sample_X4 : ∀ w ∈ wsX40, w ∈ wsX8_sample := fun _ h => List.mem_cons_of_mem _ (List.mem_append_left _ (List.mem_append_left _ (List.mem_append_right _ h)))
theorem zw_X8_sample_552 : Cond.fieldLink RX8 24 "ShortEnough$Numbers" "count" "I" ∈ wsX8_sample := List.mem_of_getElem? (i := 2) (by decide +kernel)
theorem zw_X8_sample_553 : Cond.fieldLink RX8 38 "ShortEnough$Numbers" "op" "[I" ∈ wsX8_sample := List.mem_of_getElem? (i := 3) (by decide +kernel)
theorem zn_X8_sample_X8 : ∀ w ∈ wsX80, w ∈ wsX8_sample := fun _ h => List.mem_cons_of_mem _ (List.mem_append_left _ (List.mem_append_right _ h))
theorem zw_X8_sample_555 : Cond.fieldLink RX8 9 "ShortEnough$Sampler" "exact" "[J" ∈ wsX8_sample := List.mem_of_getElem? (i := 7) (by decide +kernel)
theorem zw_X8_sample_558 : Cond.initialized RX11 ∈ wsX8_sample := List.mem_of_getElem? (i := 32) (by decide +kernel)
theorem zw_X8_sample_559 : Cond.static yX11_apply ∈ wsX8_sample := List.mem_of_getElem? (i := 48) (by decide +kernel)
theorem zw_X8_sample_560 : Cond.fieldLink RX8 15 "ShortEnough$Sampler" "kept" "[J" ∈ wsX8_sample := List.mem_of_getElem? (i := 8) (by decide +kernel)
theorem zw_X8_sample_561 : Cond.static yX11_nearest ∈ wsX8_sample := List.mem_of_getElem? (i := 31) (by decide +kernel)
theorem zw_X8_sample_562 : Cond.constantLong RX8 42 (1103515245) ∈ wsX8_sample := List.mem_of_getElem? (i := 4) (by decide +kernel)
theorem zw_X8_sample_563 : Cond.constantLong RX8 44 (12345) ∈ wsX8_sample := List.mem_of_getElem? (i := 5) (by decide +kernel)
theorem zw_X8_sample_564 : Cond.constantLong RX8 46 (2147483648) ∈ wsX8_sample := List.mem_of_getElem? (i := 6) (by decide +kernel)
set_option maxHeartbeats 4000000 in
set_option maxRecDepth 100000 in
theorem zf_X8_sample (l : Launch) (dC : Nat → ClassId) (dI : Nat → Nat → Nat) (h0 : Nat) (h1 : Nat) (h2 : Nat) (p3 : Int32) (r0_0 : Nat) (r0_1 : Nat) (v1_0 : Int32) (r1_1 : Nat) (r1_2 : Nat) (r1_3 : Nat) (r1_4 : Nat) (v1_5 : Int32) (r1_6 : Nat) (r1_7 : Nat) (r1_8 : Nat) (v2_0 : Int32) (v2_1 : Int32) (r2_2 : Nat) (r2_3 : Nat) (r2_4 : Nat) (r2_5 : Nat) (r2_6 : Nat) (r2_7 : Nat) (r2_8 : Nat) (r2_9 : Nat) (v3_0 : Int32) (v3_1 : Int32) (v3_2 : Int32) (r3_3 : Nat) (r3_4 : Nat) (r3_5 : Nat) (k4 : Nat) (f4 : Nat → Int32) (k5 : Nat) (f5 : Nat → Int32) (k6 : Nat) (f6 : Nat → Int32) (k7 : Nat) (f7 : Nat → Int32) (k8 : Nat) (f8 : Nat → Int32) (k9 : Nat) (f9 : Nat → Int32) (k10 : Nat) (f10 : Nat → Int64) (k11 : Nat) (f11 : Nat → Int64) (o : Int32 × (Nat → Int64) × (Nat → Int64)) (hfn : fn_X8_sample p3 v1_0 v2_0 f4 f5 f6 f7 f8 f9 f10 f11 = some o) (sz : Nat) : zNi [(RX8, 60, yX11_apply, RX11), (RX8, 52, yX11_nearest, RX11)] l yX8_sample wsX8_sample ({ frames := 3, cells := 0, slots := 0, locals := 78 }) (dC, dI) vwCl [.ref h0, .ref h1, .ref h2, .int p3] [zV8 h0 r0_0 r0_1, zV9 h1 v1_0 r1_1 r1_2 r1_3 r1_4 v1_5 r1_6 r1_7 r1_8, zV4 r1_6 v2_0 v2_1 r2_2 r2_3 r2_4 r2_5 r2_6 r2_7 r2_8 r2_9, zV2 r1_7 v3_0 v3_1 v3_2 r3_3 r3_4 r3_5, zVi r3_3 k4 14 f4, zVi h2 k5 14 f5, zVi r1_2 k6 4 f6, zVi r2_3 k7 14 f7, zVi r2_8 k8 28 f8, zVi r2_9 k9 28 f9, zVl r0_0 k10 14 f10, zVl r0_1 k11 14 f11] [(k4, .int), (k5, .int), (k6, .int), (k7, .int), (k8, .int), (k9, .int), (k10, .long), (k11, .long)] (fun r _ => r = o.1) [zV8 h0 r0_0 r0_1, zV9 h1 v1_0 r1_1 r1_2 r1_3 r1_4 v1_5 r1_6 r1_7 r1_8, zV4 r1_6 v2_0 v2_1 r2_2 r2_3 r2_4 r2_5 r2_6 r2_7 r2_8 r2_9, zV2 r1_7 v3_0 v3_1 v3_2 r3_3 r3_4 r3_5, zVi r3_3 k4 14 f4, zVi h2 k5 14 f5, zVi r1_2 k6 4 f6, zVi r2_3 k7 14 f7, zVi r2_8 k8 28 f8, zVi r2_9 k9 28 f9, zVl r0_0 k10 14 o.2.1, zVl r0_1 k11 14 o.2.2] [(k4, .int), (k5, .int), (k6, .int), (k7, .int), (k8, .int), (k9, .int), (k10, .long), (k11, .long)] sz := by
  refine zgoNi (cc := cX8_sample) (maxL := 13) (ret := (some .int)) (C0 := RX8) (lv0 := [(0, .ref h0), (1, .ref h1), (2, .ref h2), (3, .int p3)]) zpl_X8 rfl rfl rfl (Nat.le_of_ble_eq_true rfl) ?_
  intro p e s m below meth c A ls Q hN hx hb hr hts hown hlocks hml hP hK hD hA hS hl hQ
  have hn0 : va_Nw (.methodLinkNest RX8 60 yX11_apply RX11) s := hN.1
  have hn1 : va_Nw (.methodLinkNest RX8 52 yX11_nearest RX11) s := hN.2.1
  unfold fn_X8_sample at hfn
  refine lv_iload_n hx hb dX8_sample_0 rfl (lv_at hl 3 rfl) ?_
  refine lv_i2l (v := p3.toInt64) hx hb dX8_sample_1 rfl ?_
  refine lv_lstore (lv' := [(4, .long p3.toInt64), (0, .ref h0), (1, .ref h1), (2, .ref h2), (3, .int p3)]) hx hb dX8_sample_2 hl (of_decide_eq_true rfl) rfl (fun ls hl => ?_)
  refine lv_iconst (v := 0) hx hb dX8_sample_4 zci_0 ?_
  refine lv_istore (lv' := [(6, .int 0), (4, .long p3.toInt64), (0, .ref h0), (1, .ref h1), (2, .ref h2), (3, .int p3)]) hx hb dX8_sample_5 hl (of_decide_eq_true rfl) rfl (fun ls hl => ?_)
  obtain ⟨bd_1, ebd_1, hfn⟩ := zl_g hfn
  have lp_1 : ∀ (n : Nat) (s_1 : Int64 × Int32 × (Nat → Int64) × (Nat → Int64)) (H : Heap) (locs : List Loc) (ls : Array Slot), zl bd_1 n s_1 = some o → va_P (dC, dI) vwCl [zV8 h0 r0_0 r0_1, zV9 h1 v1_0 r1_1 r1_2 r1_3 r1_4 v1_5 r1_6 r1_7 r1_8, zV4 r1_6 v2_0 v2_1 r2_2 r2_3 r2_4 r2_5 r2_6 r2_7 r2_8 r2_9, zV2 r1_7 v3_0 v3_1 v3_2 r3_3 r3_4 r3_5, zVi r3_3 k4 14 f4, zVi h2 k5 14 f5, zVi r1_2 k6 4 f6, zVi r2_3 k7 14 f7, zVi r2_8 k8 28 f8, zVi r2_9 k9 28 f9, zVl r0_0 k10 14 s_1.2.2.1, zVl r0_1 k11 14 s_1.2.2.2] H → va_D A [zV8 h0 r0_0 r0_1, zV9 h1 v1_0 r1_1 r1_2 r1_3 r1_4 v1_5 r1_6 r1_7 r1_8, zV4 r1_6 v2_0 v2_1 r2_2 r2_3 r2_4 r2_5 r2_6 r2_7 r2_8 r2_9, zV2 r1_7 v3_0 v3_1 v3_2 r3_3 r3_4 r3_5, zVi r3_3 k4 14 f4, zVi h2 k5 14 f5, zVi r1_2 k6 4 f6, zVi r2_3 k7 14 f7, zVi r2_8 k8 28 f8, zVi r2_9 k9 28 f9, zVl r0_0 k10 14 s_1.2.2.1, zVl r0_1 k11 14 s_1.2.2.2] → va_S A s.heap H locs → lv_has ls 13 [(6, .int s_1.2.1), (4, .long s_1.1), (0, .ref h0), (1, .ref h1), (2, .ref h2)] → W p l e (headSpec wsX8_sample ({ frames := 3, cells := 0, slots := 0, locals := 78 })).room s m ([.ref h0, .ref h1, .ref h2, .int p3] : List Value).toArray below meth c H locs 0 0 Q (F0 m 7 ls []) := by
    intro n
    induction n with
    | zero => exact fun _ _ _ _ hfn => (zl_0 hfn).elim
    | succ n ih_1 =>
      intro s_1 H locs ls hfn hP hD hS hl
      have hfn := zl_s ebd_1 hfn
      refine lv_iload hx hb dX8_sample_7 (lv_at hl 0 rfl) ?_
      refine lv_aload_n hx hb dX8_sample_9 rfl (lv_at hl 3 rfl) ?_
      refine va_get (D := (dC, dI)) (ci := 9) (v := .ref r1_6) (C := RX9) (T := TX9) (N := 9) hx hb hts zn_X8_sample_X9 hown hK hP 1 rfl rfl 6 (of_decide_eq_true rfl) (hts (.fieldLink RX8 18 "ShortEnough$Task" "numbers" "LShortEnough$Numbers;") zw_X8_sample_550) (fun _ h9 => h9) rfl dX8_sample_10 ?_
      refine va_get (D := (dC, dI)) (ci := 4) (v := .int v2_0) (C := RX4) (T := TX4) (N := 10) hx hb hts zn_X8_sample_X4 hown hK hP 2 rfl rfl 0 (of_decide_eq_true rfl) (hts (.fieldLink RX8 24 "ShortEnough$Numbers" "count" "I") zw_X8_sample_552) (fun _ h9 => h9) rfl dX8_sample_13 ?_
      refine lv_icmp_ge (tgt := 237) hx hb dX8_sample_16 (of_decide_eq_true rfl) (fun c_2 => ?_) (fun c_2 => ?_)
      · have hfn := (if_pos c_2).symm.trans hfn
        refine lv_lload hx hb dX8_sample_237 (lv_at hl 1 rfl) ?_
        refine lv_l2i (v := s_1.1.toInt32) hx hb dX8_sample_239 rfl ?_
        have ho := Option.some.inj hfn
        subst ho
        exact zri hx hb hr hK hP hD hS hQ rfl hlocks dX8_sample_240
      have hfn := (if_neg c_2).symm.trans hfn
      refine lv_aload_n hx hb dX8_sample_19 rfl (lv_at hl 3 rfl) ?_
      refine lv_aload_n hx hb dX8_sample_20 rfl (lv_at hl 3 rfl) ?_
      refine lv_aload_n hx hb dX8_sample_21 rfl (lv_at hl 4 rfl) ?_
      refine lv_iload hx hb dX8_sample_22 (lv_at hl 0 rfl) ?_
      obtain ⟨o_3, hqo_3, hfn⟩ := zb_s hfn
      refine zcVi (ci := 9) (rest := [.ref h1]) (pc' := 27) (ws' := [zV8 h0 r0_0 r0_1, zV9 h1 v1_0 r1_1 r1_2 r1_3 r1_4 v1_5 r1_6 r1_7 r1_8, zV4 r1_6 v2_0 v2_1 r2_2 r2_3 r2_4 r2_5 r2_6 r2_7 r2_8 r2_9, zV2 r1_7 v3_0 v3_1 v3_2 r3_3 r3_4 r3_5, zVi r3_3 k4 14 f4, zVi h2 k5 14 f5, zVi r1_2 k6 4 f6, zVi r2_3 k7 14 f7, zVi r2_8 k8 28 f8, zVi r2_9 k9 28 f9, zVl r0_0 k10 14 s_1.2.2.1, zVl r0_1 k11 14 s_1.2.2.2]) hP hK hD hS hA ⟨hx, hb, hml, hown, hts⟩ (zf_X9_formatOf l dC dI h1 h2 s_1.2.1 v1_0 r1_1 r1_2 r1_3 r1_4 v1_5 r1_6 r1_7 r1_8 v2_0 v2_1 r2_2 r2_3 r2_4 r2_5 r2_6 r2_7 r2_8 r2_9 v3_0 v3_1 v3_2 r3_3 r3_4 r3_5 k4 f4 k5 f5 o_3 hqo_3 H.size) (cwV 2 hts gX8_sample_X9_formatOf rfl rfl rfl zhd_X9_formatOf ⟨Nat.le_of_ble_eq_true rfl, Nat.le_of_ble_eq_true rfl⟩) [1, 2, 3, 4, 5] rfl (of_decide_eq_true rfl) [0, 1] rfl rfl rfl rfl hl.1 rfl (Nat.le_of_ble_eq_true rfl) dX8_sample_24 ⟨Nat.le_of_ble_eq_true rfl, Nat.le_of_ble_eq_true rfl⟩ [none, some 0, some 1, some 2, some 3, some 4] (of_decide_eq_true rfl) (of_decide_eq_true rfl) rfl rfl rfl (fun H locs hP hD hS => ?_)
      obtain ⟨o_7, hqo_7, hfn⟩ := zb_s hfn
      refine zcVi (ci := 9) (rest := []) (pc' := 30) (ws' := [zV8 h0 r0_0 r0_1, zV9 h1 v1_0 r1_1 r1_2 r1_3 r1_4 v1_5 r1_6 r1_7 r1_8, zV4 r1_6 v2_0 v2_1 r2_2 r2_3 r2_4 r2_5 r2_6 r2_7 r2_8 r2_9, zV2 r1_7 v3_0 v3_1 v3_2 r3_3 r3_4 r3_5, zVi r3_3 k4 14 f4, zVi h2 k5 14 f5, zVi r1_2 k6 4 f6, zVi r2_3 k7 14 f7, zVi r2_8 k8 28 f8, zVi r2_9 k9 28 f9, zVl r0_0 k10 14 s_1.2.2.1, zVl r0_1 k11 14 s_1.2.2.2]) hP hK hD hS hA ⟨hx, hb, hml, hown, hts⟩ (zf_X9_stepOf l dC dI h1 o_3 v1_0 r1_1 r1_2 r1_3 r1_4 v1_5 r1_6 r1_7 r1_8 k6 f6 o_7 hqo_7 H.size) (cwV 1 hts gX8_sample_X9_stepOf rfl rfl rfl zhd_X9_stepOf ⟨Nat.le_of_ble_eq_true rfl, Nat.le_of_ble_eq_true rfl⟩) [1, 6] rfl (of_decide_eq_true rfl) [2] rfl rfl rfl rfl hl.1 rfl (Nat.le_of_ble_eq_true rfl) dX8_sample_27 ⟨Nat.le_of_ble_eq_true rfl, Nat.le_of_ble_eq_true rfl⟩ [none, some 0, none, none, none, none, some 1] (of_decide_eq_true rfl) (of_decide_eq_true rfl) rfl rfl rfl (fun H locs hP hD hS => ?_)
      refine lv_istore (lv' := [(7, .int o_7), (6, .int s_1.2.1), (4, .long s_1.1), (0, .ref h0), (1, .ref h1), (2, .ref h2)]) hx hb dX8_sample_30 hl (of_decide_eq_true rfl) rfl (fun ls hl => ?_)
      refine lv_aload_n hx hb dX8_sample_32 rfl (lv_at hl 4 rfl) ?_
      refine va_get (D := (dC, dI)) (ci := 9) (v := .ref r1_6) (C := RX9) (T := TX9) (N := 9) hx hb hts zn_X8_sample_X9 hown hK hP 1 rfl rfl 6 (of_decide_eq_true rfl) (hts (.fieldLink RX8 18 "ShortEnough$Task" "numbers" "LShortEnough$Numbers;") zw_X8_sample_550) (fun _ h9 => h9) rfl dX8_sample_33 ?_
      refine va_get (D := (dC, dI)) (ci := 4) (v := .ref r2_3) (C := RX4) (T := TX4) (N := 10) hx hb hts zn_X8_sample_X4 hown hK hP 2 rfl rfl 3 (of_decide_eq_true rfl) (hts (.fieldLink RX8 38 "ShortEnough$Numbers" "op" "[I") zw_X8_sample_553) (fun _ h9 => h9) rfl dX8_sample_36 ?_
      refine lv_iload hx hb dX8_sample_39 (lv_at hl 1 rfl) ?_
      obtain ⟨h_11, hfn⟩ := zg_s hfn
      refine va_iald hx hb hK hP 7 3 rfl rfl h_11 dX8_sample_41 ?_
      refine lv_istore (lv' := [(8, .int (f7 s_1.2.1.toNatClampNeg)), (7, .int o_7), (6, .int s_1.2.1), (4, .long s_1.1), (0, .ref h0), (1, .ref h1), (2, .ref h2)]) hx hb dX8_sample_42 hl (of_decide_eq_true rfl) rfl (fun ls hl => ?_)
      refine lv_iload hx hb dX8_sample_44 (lv_at hl 0 rfl) ?_
      refine lv_if_ne (tgt := 137) hx hb dX8_sample_46 (of_decide_eq_true rfl) (fun c_12 => ?_) (fun c_12 => ?_)
      · have hfn := (if_neg c_12).symm.trans hfn
        refine lv_aload_n hx hb dX8_sample_137 rfl (lv_at hl 4 rfl) ?_
        refine va_get (D := (dC, dI)) (ci := 8) (v := .ref r0_0) (C := RX8) (T := TX8) (N := 2) hx hb hts zn_X8_sample_X8 hown hK hP 0 rfl rfl 0 (of_decide_eq_true rfl) (hts (.fieldLink RX8 9 "ShortEnough$Sampler" "exact" "[J") zw_X8_sample_555) (fun _ h9 => h9) rfl dX8_sample_138 ?_
        refine lv_iload hx hb dX8_sample_141 (lv_at hl 2 rfl) ?_
        refine lv_iload hx hb dX8_sample_143 (lv_at hl 0 rfl) ?_
        refine lv_aload_n hx hb dX8_sample_145 rfl (lv_at hl 5 rfl) ?_
        refine lv_aload_n hx hb dX8_sample_146 rfl (lv_at hl 4 rfl) ?_
        refine va_get (D := (dC, dI)) (ci := 8) (v := .ref r0_0) (C := RX8) (T := TX8) (N := 2) hx hb hts zn_X8_sample_X8 hown hK hP 0 rfl rfl 0 (of_decide_eq_true rfl) (hts (.fieldLink RX8 9 "ShortEnough$Sampler" "exact" "[J") zw_X8_sample_555) (fun _ h9 => h9) rfl dX8_sample_147 ?_
        refine lv_iload hx hb dX8_sample_150 (lv_at hl 2 rfl) ?_
        refine lv_iconst (v := 0) hx hb dX8_sample_152 zci_0 ?_
        obtain ⟨o_13, hqo_13, hfn⟩ := zb_s hfn
        refine zcSl (rest := [.int (f7 s_1.2.1.toNatClampNeg), .int s_1.2.1, .ref r0_0]) (pc' := 156) (ws' := [zV8 h0 r0_0 r0_1, zV9 h1 v1_0 r1_1 r1_2 r1_3 r1_4 v1_5 r1_6 r1_7 r1_8, zV4 r1_6 v2_0 v2_1 r2_2 r2_3 r2_4 r2_5 r2_6 r2_7 r2_8 r2_9, zV2 r1_7 v3_0 v3_1 v3_2 r3_3 r3_4 r3_5, zVi r3_3 k4 14 f4, zVi h2 k5 14 f5, zVi r1_2 k6 4 f6, zVi r2_3 k7 14 f7, zVi r2_8 k8 28 f8, zVi r2_9 k9 28 f9, zVl r0_0 k10 14 s_1.2.2.1, zVl r0_1 k11 14 s_1.2.2.2]) hP hK hD hS hA ⟨hx, hb, hml, hown, hts⟩ (zf_X8_whatOf l dC dI h1 r0_0 s_1.2.1 0 v1_0 r1_1 r1_2 r1_3 r1_4 v1_5 r1_6 r1_7 r1_8 v2_0 v2_1 r2_2 r2_3 r2_4 r2_5 r2_6 r2_7 r2_8 r2_9 k8 f8 k9 f9 k10 s_1.2.2.1 o_13 hqo_13 H.size) (va_cwS 4 hts gX8_sample_X8_whatOf rfl rfl rfl zhd_X8_whatOf.2 ⟨Nat.le_of_ble_eq_true rfl, Nat.le_of_ble_eq_true rfl⟩) [1, 2, 8, 9, 10] rfl (of_decide_eq_true rfl) [4, 5, 6] rfl rfl hl.1 rfl (Nat.le_of_ble_eq_true rfl) dX8_sample_153 ⟨Nat.le_of_ble_eq_true rfl, Nat.le_of_ble_eq_true rfl⟩ [none, some 0, some 1, none, none, none, none, none, some 2, some 3, some 4] (of_decide_eq_true rfl) (of_decide_eq_true rfl) rfl rfl rfl (fun H locs hP hD hS => ?_)
        refine lv_aload_n hx hb dX8_sample_156 rfl (lv_at hl 5 rfl) ?_
        refine lv_aload_n hx hb dX8_sample_157 rfl (lv_at hl 4 rfl) ?_
        refine va_get (D := (dC, dI)) (ci := 8) (v := .ref r0_0) (C := RX8) (T := TX8) (N := 2) hx hb hts zn_X8_sample_X8 hown hK hP 0 rfl rfl 0 (of_decide_eq_true rfl) (hts (.fieldLink RX8 9 "ShortEnough$Sampler" "exact" "[J") zw_X8_sample_555) (fun _ h9 => h9) rfl dX8_sample_158 ?_
        refine lv_iload hx hb dX8_sample_161 (lv_at hl 2 rfl) ?_
        refine lv_iconst (v := 1) hx hb dX8_sample_163 zci_1 ?_
        obtain ⟨o_17, hqo_17, hfn⟩ := zb_s hfn
        refine zcSl (rest := [.long o_13, .int (f7 s_1.2.1.toNatClampNeg), .int s_1.2.1, .ref r0_0]) (pc' := 167) (ws' := [zV8 h0 r0_0 r0_1, zV9 h1 v1_0 r1_1 r1_2 r1_3 r1_4 v1_5 r1_6 r1_7 r1_8, zV4 r1_6 v2_0 v2_1 r2_2 r2_3 r2_4 r2_5 r2_6 r2_7 r2_8 r2_9, zV2 r1_7 v3_0 v3_1 v3_2 r3_3 r3_4 r3_5, zVi r3_3 k4 14 f4, zVi h2 k5 14 f5, zVi r1_2 k6 4 f6, zVi r2_3 k7 14 f7, zVi r2_8 k8 28 f8, zVi r2_9 k9 28 f9, zVl r0_0 k10 14 s_1.2.2.1, zVl r0_1 k11 14 s_1.2.2.2]) hP hK hD hS hA ⟨hx, hb, hml, hown, hts⟩ (zf_X8_whatOf l dC dI h1 r0_0 s_1.2.1 1 v1_0 r1_1 r1_2 r1_3 r1_4 v1_5 r1_6 r1_7 r1_8 v2_0 v2_1 r2_2 r2_3 r2_4 r2_5 r2_6 r2_7 r2_8 r2_9 k8 f8 k9 f9 k10 s_1.2.2.1 o_17 hqo_17 H.size) (va_cwS 4 hts gX8_sample_X8_whatOf rfl rfl rfl zhd_X8_whatOf.2 ⟨Nat.le_of_ble_eq_true rfl, Nat.le_of_ble_eq_true rfl⟩) [1, 2, 8, 9, 10] rfl (of_decide_eq_true rfl) [4, 5, 6] rfl rfl hl.1 rfl (Nat.le_of_ble_eq_true rfl) dX8_sample_164 ⟨Nat.le_of_ble_eq_true rfl, Nat.le_of_ble_eq_true rfl⟩ [none, some 0, some 1, none, none, none, none, none, some 2, some 3, some 4] (of_decide_eq_true rfl) (of_decide_eq_true rfl) rfl rfl rfl (fun H locs hP hD hS => ?_)
        refine lv_lconst (v := 1) hx hb dX8_sample_167 (by decide +kernel) ?_
        obtain ⟨o_21, hqo_21, hfn⟩ := zb_s hfn
        have hC := zC hP [] (wc := []) rfl
        have hPc := hP.sub [] (zfm hC)
        have hDc := hD.sub [] (of_decide_eq_true rfl) hC
        have hKc := hK.sub (tys' := []) [] rfl
        have hFc := va_free hD hS hA [] hC
        refine va_calll (va_runSN (As := [.int (f7 s_1.2.1.toNatClampNeg), .long o_13, .long o_17, .long 1]) (rest := [.int s_1.2.1, .ref r0_0]) ⟨hx, hb, hml, hown, hts⟩ (zf_X11_apply l dC dI (f7 s_1.2.1.toNatClampNeg) o_13 o_17 (1 : Int64) o_21 hqo_21 H.size) ⟨va_cnB (host := RX11) 4 hts gX8_sample_X11_apply_n60 rfl rfl rfl hn0 (hts (.initialized RX11) zw_X8_sample_558) (by decide +kernel) ⟨Nat.le_of_ble_eq_true rfl, Nat.le_of_ble_eq_true rfl⟩, (hts (.static yX11_apply) zw_X8_sample_559), trivial⟩ ⟨fun a U g mk q => by obtain ⟨q0, q1, qP, qK, qD⟩ := q; exact ⟨q0, q1, qP, va_K.moved (u := U) (U := U.calling g mk a) (Vm.Alike.refl U.vm) qK, qD⟩, fun U hU hW => ⟨rfl, by rw [hU], by rw [hU]; exact hPc, va_K.moved hW.alike hKc, hDc.weaken (fun _ _ _ _ => trivial)⟩⟩ rfl rfl hl.1 rfl (lv_room (Nat.le_of_ble_eq_true rfl)) dX8_sample_168 ⟨Nat.le_of_ble_eq_true rfl, Nat.le_of_ble_eq_true rfl⟩) hS (fun q _ h => hFc q h) hFc (fun r_22 u_23 t H1 locs ht hvm hw_24 hB hz1 hk1 hS => ?_)
        obtain ⟨hP1, hK1, hD1⟩ := hB
        rw [ht] at hP1
        have hK1 := va_K.moved hvm.symm hK1
        obtain ⟨hP, hD⟩ := zjn (ws' := [zV8 h0 r0_0 r0_1, zV9 h1 v1_0 r1_1 r1_2 r1_3 r1_4 v1_5 r1_6 r1_7 r1_8, zV4 r1_6 v2_0 v2_1 r2_2 r2_3 r2_4 r2_5 r2_6 r2_7 r2_8 r2_9, zV2 r1_7 v3_0 v3_1 v3_2 r3_3 r3_4 r3_5, zVi r3_3 k4 14 f4, zVi h2 k5 14 f5, zVi r1_2 k6 4 f6, zVi r2_3 k7 14 f7, zVi r2_8 k8 28 f8, zVi r2_9 k9 28 f9, zVl r0_0 k10 14 s_1.2.2.1, zVl r0_1 k11 14 s_1.2.2.2]) hP hD [] hC hk1 hFc hP1 hD1 [] (of_decide_eq_true rfl) (of_decide_eq_true rfl) rfl rfl
        generalize H1 = H at hP hS ⊢
        refine W.eq (g2 := F0 m 171 ls [.long o_21, .int s_1.2.1, .ref r0_0]) (by rw [hw_24]) ?_
        refine va_last hx hb hK hP hD hS 10 6 rfl rfl h_11 dX8_sample_171 (fun H locs hP hD hS => ?_)
        have hP : va_P (dC, dI) vwCl [zV8 h0 r0_0 r0_1, zV9 h1 v1_0 r1_1 r1_2 r1_3 r1_4 v1_5 r1_6 r1_7 r1_8, zV4 r1_6 v2_0 v2_1 r2_2 r2_3 r2_4 r2_5 r2_6 r2_7 r2_8 r2_9, zV2 r1_7 v3_0 v3_1 v3_2 r3_3 r3_4 r3_5, zVi r3_3 k4 14 f4, zVi h2 k5 14 f5, zVi r1_2 k6 4 f6, zVi r2_3 k7 14 f7, zVi r2_8 k8 28 f8, zVi r2_9 k9 28 f9, zVl r0_0 k10 14 (vp_updL s_1.2.2.1 s_1.2.1.toNatClampNeg o_21), zVl r0_1 k11 14 s_1.2.2.2] H := hP
        have hD := zDW hD hP rfl
        refine lv_aload_n hx hb dX8_sample_172 rfl (lv_at hl 5 rfl) ?_
        refine lv_aload_n hx hb dX8_sample_173 rfl (lv_at hl 4 rfl) ?_
        refine va_get (D := (dC, dI)) (ci := 8) (v := .ref r0_1) (C := RX8) (T := TX8) (N := 2) hx hb hts zn_X8_sample_X8 hown hK hP 0 rfl rfl 1 (of_decide_eq_true rfl) (hts (.fieldLink RX8 15 "ShortEnough$Sampler" "kept" "[J") zw_X8_sample_560) (fun _ h9 => h9) rfl dX8_sample_174 ?_
        refine lv_iload hx hb dX8_sample_177 (lv_at hl 2 rfl) ?_
        refine lv_iconst (v := 0) hx hb dX8_sample_179 zci_0 ?_
        obtain ⟨o_25, hqo_25, hfn⟩ := zb_s hfn
        refine zcSl (rest := []) (pc' := 183) (ws' := [zV8 h0 r0_0 r0_1, zV9 h1 v1_0 r1_1 r1_2 r1_3 r1_4 v1_5 r1_6 r1_7 r1_8, zV4 r1_6 v2_0 v2_1 r2_2 r2_3 r2_4 r2_5 r2_6 r2_7 r2_8 r2_9, zV2 r1_7 v3_0 v3_1 v3_2 r3_3 r3_4 r3_5, zVi r3_3 k4 14 f4, zVi h2 k5 14 f5, zVi r1_2 k6 4 f6, zVi r2_3 k7 14 f7, zVi r2_8 k8 28 f8, zVi r2_9 k9 28 f9, zVl r0_0 k10 14 (vp_updL s_1.2.2.1 s_1.2.1.toNatClampNeg o_21), zVl r0_1 k11 14 s_1.2.2.2]) hP hK hD hS hA ⟨hx, hb, hml, hown, hts⟩ (zf_X8_whatOf l dC dI h1 r0_1 s_1.2.1 0 v1_0 r1_1 r1_2 r1_3 r1_4 v1_5 r1_6 r1_7 r1_8 v2_0 v2_1 r2_2 r2_3 r2_4 r2_5 r2_6 r2_7 r2_8 r2_9 k8 f8 k9 f9 k11 s_1.2.2.2 o_25 hqo_25 H.size) (va_cwS 4 hts gX8_sample_X8_whatOf rfl rfl rfl zhd_X8_whatOf.2 ⟨Nat.le_of_ble_eq_true rfl, Nat.le_of_ble_eq_true rfl⟩) [1, 2, 8, 9, 11] rfl (of_decide_eq_true rfl) [4, 5, 7] rfl rfl hl.1 rfl (Nat.le_of_ble_eq_true rfl) dX8_sample_180 ⟨Nat.le_of_ble_eq_true rfl, Nat.le_of_ble_eq_true rfl⟩ [none, some 0, some 1, none, none, none, none, none, some 2, some 3, none, some 4] (of_decide_eq_true rfl) (of_decide_eq_true rfl) rfl rfl rfl (fun H locs hP hD hS => ?_)
        refine lv_lconst (v := 1) hx hb dX8_sample_183 (by decide +kernel) ?_
        refine lv_iload hx hb dX8_sample_184 (lv_at hl 1 rfl) ?_
        refine lv_i2l (v := o_7.toInt64) hx hb dX8_sample_186 rfl ?_
        obtain ⟨o_29, hqo_29, hfn⟩ := zb_s hfn
        have hC := zC hP [] (wc := []) rfl
        have hPc := hP.sub [] (zfm hC)
        have hDc := hD.sub [] (of_decide_eq_true rfl) hC
        have hKc := hK.sub (tys' := []) [] rfl
        have hFc := va_free hD hS hA [] hC
        refine va_calll (va_runSN (As := [.long o_25, .long 1, .long o_7.toInt64]) (rest := []) ⟨hx, hb, hml, hown, hts⟩ (zf_X11_nearest l dC dI o_25 (1 : Int64) o_7.toInt64 o_29 hqo_29 H.size) ⟨va_cnB (host := RX11) 3 hts gX8_sample_X11_nearest_n52 rfl rfl rfl hn1 (hts (.initialized RX11) zw_X8_sample_558) (by decide +kernel) ⟨Nat.le_of_ble_eq_true rfl, Nat.le_of_ble_eq_true rfl⟩, (hts (.static yX11_nearest) zw_X8_sample_561), trivial⟩ ⟨fun a U g mk q => by obtain ⟨q0, q1, qP, qK, qD⟩ := q; exact ⟨q0, q1, qP, va_K.moved (u := U) (U := U.calling g mk a) (Vm.Alike.refl U.vm) qK, qD⟩, fun U hU hW => ⟨rfl, by rw [hU], by rw [hU]; exact hPc, va_K.moved hW.alike hKc, hDc.weaken (fun _ _ _ _ => trivial)⟩⟩ rfl rfl hl.1 rfl (lv_room (Nat.le_of_ble_eq_true rfl)) dX8_sample_187 ⟨Nat.le_of_ble_eq_true rfl, Nat.le_of_ble_eq_true rfl⟩) hS (fun q _ h => hFc q h) hFc (fun r_30 u_31 t H1 locs ht hvm hw_32 hB hz1 hk1 hS => ?_)
        obtain ⟨hP1, hK1, hD1⟩ := hB
        rw [ht] at hP1
        have hK1 := va_K.moved hvm.symm hK1
        obtain ⟨hP, hD⟩ := zjn (ws' := [zV8 h0 r0_0 r0_1, zV9 h1 v1_0 r1_1 r1_2 r1_3 r1_4 v1_5 r1_6 r1_7 r1_8, zV4 r1_6 v2_0 v2_1 r2_2 r2_3 r2_4 r2_5 r2_6 r2_7 r2_8 r2_9, zV2 r1_7 v3_0 v3_1 v3_2 r3_3 r3_4 r3_5, zVi r3_3 k4 14 f4, zVi h2 k5 14 f5, zVi r1_2 k6 4 f6, zVi r2_3 k7 14 f7, zVi r2_8 k8 28 f8, zVi r2_9 k9 28 f9, zVl r0_0 k10 14 (vp_updL s_1.2.2.1 s_1.2.1.toNatClampNeg o_21), zVl r0_1 k11 14 s_1.2.2.2]) hP hD [] hC hk1 hFc hP1 hD1 [] (of_decide_eq_true rfl) (of_decide_eq_true rfl) rfl rfl
        generalize H1 = H at hP hS ⊢
        refine W.eq (g2 := F0 m 190 ls [.long o_29]) (by rw [hw_32]) ?_
        refine lv_lstore (lv' := [(9, .long o_29), (8, .int (f7 s_1.2.1.toNatClampNeg)), (7, .int o_7), (6, .int s_1.2.1), (4, .long s_1.1), (0, .ref h0), (1, .ref h1), (2, .ref h2)]) hx hb dX8_sample_190 hl (of_decide_eq_true rfl) rfl (fun ls hl => ?_)
        refine lv_aload_n hx hb dX8_sample_192 rfl (lv_at hl 6 rfl) ?_
        refine lv_aload_n hx hb dX8_sample_193 rfl (lv_at hl 5 rfl) ?_
        refine va_get (D := (dC, dI)) (ci := 8) (v := .ref r0_1) (C := RX8) (T := TX8) (N := 2) hx hb hts zn_X8_sample_X8 hown hK hP 0 rfl rfl 1 (of_decide_eq_true rfl) (hts (.fieldLink RX8 15 "ShortEnough$Sampler" "kept" "[J") zw_X8_sample_560) (fun _ h9 => h9) rfl dX8_sample_194 ?_
        refine lv_iload hx hb dX8_sample_197 (lv_at hl 3 rfl) ?_
        refine lv_iconst (v := 1) hx hb dX8_sample_199 zci_1 ?_
        obtain ⟨o_33, hqo_33, hfn⟩ := zb_s hfn
        refine zcSl (rest := []) (pc' := 203) (ws' := [zV8 h0 r0_0 r0_1, zV9 h1 v1_0 r1_1 r1_2 r1_3 r1_4 v1_5 r1_6 r1_7 r1_8, zV4 r1_6 v2_0 v2_1 r2_2 r2_3 r2_4 r2_5 r2_6 r2_7 r2_8 r2_9, zV2 r1_7 v3_0 v3_1 v3_2 r3_3 r3_4 r3_5, zVi r3_3 k4 14 f4, zVi h2 k5 14 f5, zVi r1_2 k6 4 f6, zVi r2_3 k7 14 f7, zVi r2_8 k8 28 f8, zVi r2_9 k9 28 f9, zVl r0_0 k10 14 (vp_updL s_1.2.2.1 s_1.2.1.toNatClampNeg o_21), zVl r0_1 k11 14 s_1.2.2.2]) hP hK hD hS hA ⟨hx, hb, hml, hown, hts⟩ (zf_X8_whatOf l dC dI h1 r0_1 s_1.2.1 1 v1_0 r1_1 r1_2 r1_3 r1_4 v1_5 r1_6 r1_7 r1_8 v2_0 v2_1 r2_2 r2_3 r2_4 r2_5 r2_6 r2_7 r2_8 r2_9 k8 f8 k9 f9 k11 s_1.2.2.2 o_33 hqo_33 H.size) (va_cwS 4 hts gX8_sample_X8_whatOf rfl rfl rfl zhd_X8_whatOf.2 ⟨Nat.le_of_ble_eq_true rfl, Nat.le_of_ble_eq_true rfl⟩) [1, 2, 8, 9, 11] rfl (of_decide_eq_true rfl) [4, 5, 7] rfl rfl hl.1 rfl (Nat.le_of_ble_eq_true rfl) dX8_sample_200 ⟨Nat.le_of_ble_eq_true rfl, Nat.le_of_ble_eq_true rfl⟩ [none, some 0, some 1, none, none, none, none, none, some 2, some 3, none, some 4] (of_decide_eq_true rfl) (of_decide_eq_true rfl) rfl rfl rfl (fun H locs hP hD hS => ?_)
        refine lv_lconst (v := 1) hx hb dX8_sample_203 (by decide +kernel) ?_
        refine lv_iload hx hb dX8_sample_204 (lv_at hl 2 rfl) ?_
        refine lv_i2l (v := o_7.toInt64) hx hb dX8_sample_206 rfl ?_
        obtain ⟨o_37, hqo_37, hfn⟩ := zb_s hfn
        have hC := zC hP [] (wc := []) rfl
        have hPc := hP.sub [] (zfm hC)
        have hDc := hD.sub [] (of_decide_eq_true rfl) hC
        have hKc := hK.sub (tys' := []) [] rfl
        have hFc := va_free hD hS hA [] hC
        refine va_calll (va_runSN (As := [.long o_33, .long 1, .long o_7.toInt64]) (rest := []) ⟨hx, hb, hml, hown, hts⟩ (zf_X11_nearest l dC dI o_33 (1 : Int64) o_7.toInt64 o_37 hqo_37 H.size) ⟨va_cnB (host := RX11) 3 hts gX8_sample_X11_nearest_n52 rfl rfl rfl hn1 (hts (.initialized RX11) zw_X8_sample_558) (by decide +kernel) ⟨Nat.le_of_ble_eq_true rfl, Nat.le_of_ble_eq_true rfl⟩, (hts (.static yX11_nearest) zw_X8_sample_561), trivial⟩ ⟨fun a U g mk q => by obtain ⟨q0, q1, qP, qK, qD⟩ := q; exact ⟨q0, q1, qP, va_K.moved (u := U) (U := U.calling g mk a) (Vm.Alike.refl U.vm) qK, qD⟩, fun U hU hW => ⟨rfl, by rw [hU], by rw [hU]; exact hPc, va_K.moved hW.alike hKc, hDc.weaken (fun _ _ _ _ => trivial)⟩⟩ rfl rfl hl.1 rfl (lv_room (Nat.le_of_ble_eq_true rfl)) dX8_sample_207 ⟨Nat.le_of_ble_eq_true rfl, Nat.le_of_ble_eq_true rfl⟩) hS (fun q _ h => hFc q h) hFc (fun r_38 u_39 t H1 locs ht hvm hw_40 hB hz1 hk1 hS => ?_)
        obtain ⟨hP1, hK1, hD1⟩ := hB
        rw [ht] at hP1
        have hK1 := va_K.moved hvm.symm hK1
        obtain ⟨hP, hD⟩ := zjn (ws' := [zV8 h0 r0_0 r0_1, zV9 h1 v1_0 r1_1 r1_2 r1_3 r1_4 v1_5 r1_6 r1_7 r1_8, zV4 r1_6 v2_0 v2_1 r2_2 r2_3 r2_4 r2_5 r2_6 r2_7 r2_8 r2_9, zV2 r1_7 v3_0 v3_1 v3_2 r3_3 r3_4 r3_5, zVi r3_3 k4 14 f4, zVi h2 k5 14 f5, zVi r1_2 k6 4 f6, zVi r2_3 k7 14 f7, zVi r2_8 k8 28 f8, zVi r2_9 k9 28 f9, zVl r0_0 k10 14 (vp_updL s_1.2.2.1 s_1.2.1.toNatClampNeg o_21), zVl r0_1 k11 14 s_1.2.2.2]) hP hD [] hC hk1 hFc hP1 hD1 [] (of_decide_eq_true rfl) (of_decide_eq_true rfl) rfl rfl
        generalize H1 = H at hP hS ⊢
        refine W.eq (g2 := F0 m 210 ls [.long o_37]) (by rw [hw_40]) ?_
        refine lv_lstore (lv' := [(11, .long o_37), (9, .long o_29), (8, .int (f7 s_1.2.1.toNatClampNeg)), (7, .int o_7), (6, .int s_1.2.1), (4, .long s_1.1), (0, .ref h0), (1, .ref h1), (2, .ref h2)]) hx hb dX8_sample_210 hl (of_decide_eq_true rfl) rfl (fun ls hl => ?_)
        refine lv_aload_n hx hb dX8_sample_212 rfl (lv_at hl 6 rfl) ?_
        refine va_get (D := (dC, dI)) (ci := 8) (v := .ref r0_1) (C := RX8) (T := TX8) (N := 2) hx hb hts zn_X8_sample_X8 hown hK hP 0 rfl rfl 1 (of_decide_eq_true rfl) (hts (.fieldLink RX8 15 "ShortEnough$Sampler" "kept" "[J") zw_X8_sample_560) (fun _ h9 => h9) rfl dX8_sample_213 ?_
        refine lv_iload hx hb dX8_sample_216 (lv_at hl 4 rfl) ?_
        refine lv_iload hx hb dX8_sample_218 (lv_at hl 2 rfl) ?_
        refine lv_lload hx hb dX8_sample_220 (lv_at hl 1 rfl) ?_
        refine lv_lload hx hb dX8_sample_222 (lv_at hl 0 rfl) ?_
        refine lv_iload hx hb dX8_sample_224 (lv_at hl 3 rfl) ?_
        refine lv_i2l (v := o_7.toInt64) hx hb dX8_sample_226 rfl ?_
        obtain ⟨o_41, hqo_41, hfn⟩ := zb_s hfn
        have hC := zC hP [] (wc := []) rfl
        have hPc := hP.sub [] (zfm hC)
        have hDc := hD.sub [] (of_decide_eq_true rfl) hC
        have hKc := hK.sub (tys' := []) [] rfl
        have hFc := va_free hD hS hA [] hC
        refine va_calll (va_runSN (As := [.int (f7 s_1.2.1.toNatClampNeg), .long o_29, .long o_37, .long o_7.toInt64]) (rest := [.int s_1.2.1, .ref r0_1]) ⟨hx, hb, hml, hown, hts⟩ (zf_X11_apply l dC dI (f7 s_1.2.1.toNatClampNeg) o_29 o_37 o_7.toInt64 o_41 hqo_41 H.size) ⟨va_cnB (host := RX11) 4 hts gX8_sample_X11_apply_n60 rfl rfl rfl hn0 (hts (.initialized RX11) zw_X8_sample_558) (by decide +kernel) ⟨Nat.le_of_ble_eq_true rfl, Nat.le_of_ble_eq_true rfl⟩, (hts (.static yX11_apply) zw_X8_sample_559), trivial⟩ ⟨fun a U g mk q => by obtain ⟨q0, q1, qP, qK, qD⟩ := q; exact ⟨q0, q1, qP, va_K.moved (u := U) (U := U.calling g mk a) (Vm.Alike.refl U.vm) qK, qD⟩, fun U hU hW => ⟨rfl, by rw [hU], by rw [hU]; exact hPc, va_K.moved hW.alike hKc, hDc.weaken (fun _ _ _ _ => trivial)⟩⟩ rfl rfl hl.1 rfl (lv_room (Nat.le_of_ble_eq_true rfl)) dX8_sample_227 ⟨Nat.le_of_ble_eq_true rfl, Nat.le_of_ble_eq_true rfl⟩) hS (fun q _ h => hFc q h) hFc (fun r_42 u_43 t H1 locs ht hvm hw_44 hB hz1 hk1 hS => ?_)
        obtain ⟨hP1, hK1, hD1⟩ := hB
        rw [ht] at hP1
        have hK1 := va_K.moved hvm.symm hK1
        obtain ⟨hP, hD⟩ := zjn (ws' := [zV8 h0 r0_0 r0_1, zV9 h1 v1_0 r1_1 r1_2 r1_3 r1_4 v1_5 r1_6 r1_7 r1_8, zV4 r1_6 v2_0 v2_1 r2_2 r2_3 r2_4 r2_5 r2_6 r2_7 r2_8 r2_9, zV2 r1_7 v3_0 v3_1 v3_2 r3_3 r3_4 r3_5, zVi r3_3 k4 14 f4, zVi h2 k5 14 f5, zVi r1_2 k6 4 f6, zVi r2_3 k7 14 f7, zVi r2_8 k8 28 f8, zVi r2_9 k9 28 f9, zVl r0_0 k10 14 (vp_updL s_1.2.2.1 s_1.2.1.toNatClampNeg o_21), zVl r0_1 k11 14 s_1.2.2.2]) hP hD [] hC hk1 hFc hP1 hD1 [] (of_decide_eq_true rfl) (of_decide_eq_true rfl) rfl rfl
        generalize H1 = H at hP hS ⊢
        refine W.eq (g2 := F0 m 230 ls [.long o_41, .int s_1.2.1, .ref r0_1]) (by rw [hw_44]) ?_
        refine va_last hx hb hK hP hD hS 11 7 rfl rfl h_11 dX8_sample_230 (fun H locs hP hD hS => ?_)
        have hP : va_P (dC, dI) vwCl [zV8 h0 r0_0 r0_1, zV9 h1 v1_0 r1_1 r1_2 r1_3 r1_4 v1_5 r1_6 r1_7 r1_8, zV4 r1_6 v2_0 v2_1 r2_2 r2_3 r2_4 r2_5 r2_6 r2_7 r2_8 r2_9, zV2 r1_7 v3_0 v3_1 v3_2 r3_3 r3_4 r3_5, zVi r3_3 k4 14 f4, zVi h2 k5 14 f5, zVi r1_2 k6 4 f6, zVi r2_3 k7 14 f7, zVi r2_8 k8 28 f8, zVi r2_9 k9 28 f9, zVl r0_0 k10 14 (vp_updL s_1.2.2.1 s_1.2.1.toNatClampNeg o_21), zVl r0_1 k11 14 (vp_updL s_1.2.2.2 s_1.2.1.toNatClampNeg o_41)] H := hP
        have hD := zDW hD hP rfl
        refine lv_iinc (v := (s_1.2.1 + 1)) (lv' := [(6, .int (s_1.2.1 + 1)), (11, .long o_37), (9, .long o_29), (8, .int (f7 s_1.2.1.toNatClampNeg)), (7, .int o_7), (4, .long s_1.1), (0, .ref h0), (1, .ref h1), (2, .ref h2)]) hx hb dX8_sample_231 hl (k := 4) rfl rfl (of_decide_eq_true rfl) rfl (fun ls hl => ?_)
        refine lv_goto (tgt := 7) hx hb dX8_sample_234 (of_decide_eq_true rfl) ?_
        exact ih_1 (s_1.1, (s_1.2.1 + 1), (vp_updL s_1.2.2.1 s_1.2.1.toNatClampNeg o_21), (vp_updL s_1.2.2.2 s_1.2.1.toNatClampNeg o_41)) H locs ls hfn hP hD hS (lv_sub hl [0, 5, 6, 7, 8] rfl)
      have hfn := (if_pos c_12).symm.trans hfn
      refine lv_ldc2 (v := 1103515245) hx hb hown (hts (.constantLong RX8 42 (1103515245)) zw_X8_sample_562) dX8_sample_49 ?_
      refine lv_lload hx hb dX8_sample_52 (lv_at hl 3 rfl) ?_
      refine lv_lmul hx hb dX8_sample_54 ?_
      refine lv_ldc2 (v := 12345) hx hb hown (hts (.constantLong RX8 44 (12345)) zw_X8_sample_563) dX8_sample_55 ?_
      refine lv_ladd hx hb dX8_sample_58 ?_
      refine lv_ldc2 (v := 2147483648) hx hb hown (hts (.constantLong RX8 46 (2147483648)) zw_X8_sample_564) dX8_sample_59 ?_
      refine lv_lrem hx hb dX8_sample_62 (by decide +kernel) ?_
      refine lv_topl (fun x_45 ex_45 => ?_)
      have hfn := zn_s hfn ex_45
      refine lv_lstore (lv' := [(4, .long x_45), (8, .int (f7 s_1.2.1.toNatClampNeg)), (7, .int o_7), (6, .int s_1.2.1), (0, .ref h0), (1, .ref h1), (2, .ref h2)]) hx hb dX8_sample_63 hl (of_decide_eq_true rfl) rfl (fun ls hl => ?_)
      refine lv_aload_n hx hb dX8_sample_65 rfl (lv_at hl 5 rfl) ?_
      refine va_get (D := (dC, dI)) (ci := 9) (v := .ref r1_6) (C := RX9) (T := TX9) (N := 9) hx hb hts zn_X8_sample_X9 hown hK hP 1 rfl rfl 6 (of_decide_eq_true rfl) (hts (.fieldLink RX8 18 "ShortEnough$Task" "numbers" "LShortEnough$Numbers;") zw_X8_sample_550) (fun _ h9 => h9) rfl dX8_sample_66 ?_
      refine lv_iload hx hb dX8_sample_69 (lv_at hl 3 rfl) ?_
      refine lv_iconst (v := 0) hx hb dX8_sample_71 zci_0 ?_
      obtain ⟨o_46, hqo_46, hfn⟩ := zb_s hfn
      refine zcVl (ci := 4) (rest := []) (pc' := 75) (ws' := [zV8 h0 r0_0 r0_1, zV9 h1 v1_0 r1_1 r1_2 r1_3 r1_4 v1_5 r1_6 r1_7 r1_8, zV4 r1_6 v2_0 v2_1 r2_2 r2_3 r2_4 r2_5 r2_6 r2_7 r2_8 r2_9, zV2 r1_7 v3_0 v3_1 v3_2 r3_3 r3_4 r3_5, zVi r3_3 k4 14 f4, zVi h2 k5 14 f5, zVi r1_2 k6 4 f6, zVi r2_3 k7 14 f7, zVi r2_8 k8 28 f8, zVi r2_9 k9 28 f9, zVl r0_0 k10 14 s_1.2.2.1, zVl r0_1 k11 14 s_1.2.2.2]) hP hK hD hS hA ⟨hx, hb, hml, hown, hts⟩ (zf_X4_amountOf l dC dI r1_6 s_1.2.1 0 v2_0 v2_1 r2_2 r2_3 r2_4 r2_5 r2_6 r2_7 r2_8 r2_9 k9 f9 o_46 hqo_46 H.size) (cwV 2 hts gX8_sample_X4_amountOf rfl rfl rfl zhd_X4_amountOf ⟨Nat.le_of_ble_eq_true rfl, Nat.le_of_ble_eq_true rfl⟩) [2, 9] rfl (of_decide_eq_true rfl) [5] rfl rfl rfl rfl hl.1 rfl (Nat.le_of_ble_eq_true rfl) dX8_sample_72 ⟨Nat.le_of_ble_eq_true rfl, Nat.le_of_ble_eq_true rfl⟩ [none, none, some 0, none, none, none, none, none, none, some 1] (of_decide_eq_true rfl) (of_decide_eq_true rfl) rfl rfl rfl (fun H locs hP hD hS => ?_)
      refine lv_lstore (lv' := [(9, .long o_46), (4, .long x_45), (8, .int (f7 s_1.2.1.toNatClampNeg)), (7, .int o_7), (6, .int s_1.2.1), (0, .ref h0), (1, .ref h1), (2, .ref h2)]) hx hb dX8_sample_75 hl (of_decide_eq_true rfl) rfl (fun ls hl => ?_)
      refine lv_aload_n hx hb dX8_sample_77 rfl (lv_at hl 6 rfl) ?_
      refine va_get (D := (dC, dI)) (ci := 9) (v := .ref r1_6) (C := RX9) (T := TX9) (N := 9) hx hb hts zn_X8_sample_X9 hown hK hP 1 rfl rfl 6 (of_decide_eq_true rfl) (hts (.fieldLink RX8 18 "ShortEnough$Task" "numbers" "LShortEnough$Numbers;") zw_X8_sample_550) (fun _ h9 => h9) rfl dX8_sample_78 ?_
      refine lv_iload hx hb dX8_sample_81 (lv_at hl 4 rfl) ?_
      refine lv_iconst (v := 1) hx hb dX8_sample_83 zci_1 ?_
      obtain ⟨o_50, hqo_50, hfn⟩ := zb_s hfn
      refine zcVl (ci := 4) (rest := []) (pc' := 87) (ws' := [zV8 h0 r0_0 r0_1, zV9 h1 v1_0 r1_1 r1_2 r1_3 r1_4 v1_5 r1_6 r1_7 r1_8, zV4 r1_6 v2_0 v2_1 r2_2 r2_3 r2_4 r2_5 r2_6 r2_7 r2_8 r2_9, zV2 r1_7 v3_0 v3_1 v3_2 r3_3 r3_4 r3_5, zVi r3_3 k4 14 f4, zVi h2 k5 14 f5, zVi r1_2 k6 4 f6, zVi r2_3 k7 14 f7, zVi r2_8 k8 28 f8, zVi r2_9 k9 28 f9, zVl r0_0 k10 14 s_1.2.2.1, zVl r0_1 k11 14 s_1.2.2.2]) hP hK hD hS hA ⟨hx, hb, hml, hown, hts⟩ (zf_X4_amountOf l dC dI r1_6 s_1.2.1 1 v2_0 v2_1 r2_2 r2_3 r2_4 r2_5 r2_6 r2_7 r2_8 r2_9 k9 f9 o_50 hqo_50 H.size) (cwV 2 hts gX8_sample_X4_amountOf rfl rfl rfl zhd_X4_amountOf ⟨Nat.le_of_ble_eq_true rfl, Nat.le_of_ble_eq_true rfl⟩) [2, 9] rfl (of_decide_eq_true rfl) [5] rfl rfl rfl rfl hl.1 rfl (Nat.le_of_ble_eq_true rfl) dX8_sample_84 ⟨Nat.le_of_ble_eq_true rfl, Nat.le_of_ble_eq_true rfl⟩ [none, none, some 0, none, none, none, none, none, none, some 1] (of_decide_eq_true rfl) (of_decide_eq_true rfl) rfl rfl rfl (fun H locs hP hD hS => ?_)
      refine lv_lload hx hb dX8_sample_87 (lv_at hl 0 rfl) ?_
      refine lv_lsub hx hb dX8_sample_89 ?_
      refine lv_lconst (v := 1) hx hb dX8_sample_90 (by decide +kernel) ?_
      refine lv_ladd hx hb dX8_sample_91 ?_
      refine lv_lstore (lv' := [(11, .long ((o_50 - o_46) + (1 : Int64))), (9, .long o_46), (4, .long x_45), (8, .int (f7 s_1.2.1.toNatClampNeg)), (7, .int o_7), (6, .int s_1.2.1), (0, .ref h0), (1, .ref h1), (2, .ref h2)]) hx hb dX8_sample_92 hl (of_decide_eq_true rfl) rfl (fun ls hl => ?_)
      refine lv_aload_n hx hb dX8_sample_94 rfl (lv_at hl 6 rfl) ?_
      refine va_get (D := (dC, dI)) (ci := 8) (v := .ref r0_0) (C := RX8) (T := TX8) (N := 2) hx hb hts zn_X8_sample_X8 hown hK hP 0 rfl rfl 0 (of_decide_eq_true rfl) (hts (.fieldLink RX8 9 "ShortEnough$Sampler" "exact" "[J") zw_X8_sample_555) (fun _ h9 => h9) rfl dX8_sample_95 ?_
      refine lv_iload hx hb dX8_sample_98 (lv_at hl 5 rfl) ?_
      refine lv_lload hx hb dX8_sample_100 (lv_at hl 1 rfl) ?_
      refine lv_lload hx hb dX8_sample_102 (lv_at hl 2 rfl) ?_
      refine lv_lload hx hb dX8_sample_104 (lv_at hl 0 rfl) ?_
      refine lv_lmul hx hb dX8_sample_106 ?_
      refine lv_ldc2 (v := 2147483648) hx hb hown (hts (.constantLong RX8 46 (2147483648)) zw_X8_sample_564) dX8_sample_107 ?_
      refine lv_ldiv hx hb dX8_sample_110 (by decide +kernel) ?_
      refine lv_ladd hx hb dX8_sample_111 ?_
      refine lv_topl (fun x_54 ex_54 => ?_)
      have hfn := zn_s hfn ex_54
      refine va_last hx hb hK hP hD hS 10 6 rfl rfl h_11 dX8_sample_112 (fun H locs hP hD hS => ?_)
      have hP : va_P (dC, dI) vwCl [zV8 h0 r0_0 r0_1, zV9 h1 v1_0 r1_1 r1_2 r1_3 r1_4 v1_5 r1_6 r1_7 r1_8, zV4 r1_6 v2_0 v2_1 r2_2 r2_3 r2_4 r2_5 r2_6 r2_7 r2_8 r2_9, zV2 r1_7 v3_0 v3_1 v3_2 r3_3 r3_4 r3_5, zVi r3_3 k4 14 f4, zVi h2 k5 14 f5, zVi r1_2 k6 4 f6, zVi r2_3 k7 14 f7, zVi r2_8 k8 28 f8, zVi r2_9 k9 28 f9, zVl r0_0 k10 14 (vp_updL s_1.2.2.1 s_1.2.1.toNatClampNeg x_54), zVl r0_1 k11 14 s_1.2.2.2] H := hP
      have hD := zDW hD hP rfl
      refine lv_aload_n hx hb dX8_sample_113 rfl (lv_at hl 6 rfl) ?_
      refine va_get (D := (dC, dI)) (ci := 8) (v := .ref r0_1) (C := RX8) (T := TX8) (N := 2) hx hb hts zn_X8_sample_X8 hown hK hP 0 rfl rfl 1 (of_decide_eq_true rfl) (hts (.fieldLink RX8 15 "ShortEnough$Sampler" "kept" "[J") zw_X8_sample_560) (fun _ h9 => h9) rfl dX8_sample_114 ?_
      refine lv_iload hx hb dX8_sample_117 (lv_at hl 5 rfl) ?_
      refine lv_aload_n hx hb dX8_sample_119 rfl (lv_at hl 6 rfl) ?_
      refine va_get (D := (dC, dI)) (ci := 8) (v := .ref r0_0) (C := RX8) (T := TX8) (N := 2) hx hb hts zn_X8_sample_X8 hown hK hP 0 rfl rfl 0 (of_decide_eq_true rfl) (hts (.fieldLink RX8 9 "ShortEnough$Sampler" "exact" "[J") zw_X8_sample_555) (fun _ h9 => h9) rfl dX8_sample_120 ?_
      refine lv_iload hx hb dX8_sample_123 (lv_at hl 5 rfl) ?_
      refine va_lald hx hb hK hP 10 6 rfl rfl h_11 dX8_sample_125 ?_
      refine lv_lconst (v := 1) hx hb dX8_sample_126 (by decide +kernel) ?_
      refine lv_iload hx hb dX8_sample_127 (lv_at hl 4 rfl) ?_
      refine lv_i2l (v := o_7.toInt64) hx hb dX8_sample_129 rfl ?_
      obtain ⟨o_55, hqo_55, hfn⟩ := zb_s hfn
      have hC := zC hP [] (wc := []) rfl
      have hPc := hP.sub [] (zfm hC)
      have hDc := hD.sub [] (of_decide_eq_true rfl) hC
      have hKc := hK.sub (tys' := []) [] rfl
      have hFc := va_free hD hS hA [] hC
      refine va_calll (va_runSN (As := [.long ((vp_updL s_1.2.2.1 s_1.2.1.toNatClampNeg x_54) s_1.2.1.toNatClampNeg), .long 1, .long o_7.toInt64]) (rest := [.int s_1.2.1, .ref r0_1]) ⟨hx, hb, hml, hown, hts⟩ (zf_X11_nearest l dC dI ((vp_updL s_1.2.2.1 s_1.2.1.toNatClampNeg x_54) s_1.2.1.toNatClampNeg) (1 : Int64) o_7.toInt64 o_55 hqo_55 H.size) ⟨va_cnB (host := RX11) 3 hts gX8_sample_X11_nearest_n52 rfl rfl rfl hn1 (hts (.initialized RX11) zw_X8_sample_558) (by decide +kernel) ⟨Nat.le_of_ble_eq_true rfl, Nat.le_of_ble_eq_true rfl⟩, (hts (.static yX11_nearest) zw_X8_sample_561), trivial⟩ ⟨fun a U g mk q => by obtain ⟨q0, q1, qP, qK, qD⟩ := q; exact ⟨q0, q1, qP, va_K.moved (u := U) (U := U.calling g mk a) (Vm.Alike.refl U.vm) qK, qD⟩, fun U hU hW => ⟨rfl, by rw [hU], by rw [hU]; exact hPc, va_K.moved hW.alike hKc, hDc.weaken (fun _ _ _ _ => trivial)⟩⟩ rfl rfl hl.1 rfl (lv_room (Nat.le_of_ble_eq_true rfl)) dX8_sample_130 ⟨Nat.le_of_ble_eq_true rfl, Nat.le_of_ble_eq_true rfl⟩) hS (fun q _ h => hFc q h) hFc (fun r_56 u_57 t H1 locs ht hvm hw_58 hB hz1 hk1 hS => ?_)
      obtain ⟨hP1, hK1, hD1⟩ := hB
      rw [ht] at hP1
      have hK1 := va_K.moved hvm.symm hK1
      obtain ⟨hP, hD⟩ := zjn (ws' := [zV8 h0 r0_0 r0_1, zV9 h1 v1_0 r1_1 r1_2 r1_3 r1_4 v1_5 r1_6 r1_7 r1_8, zV4 r1_6 v2_0 v2_1 r2_2 r2_3 r2_4 r2_5 r2_6 r2_7 r2_8 r2_9, zV2 r1_7 v3_0 v3_1 v3_2 r3_3 r3_4 r3_5, zVi r3_3 k4 14 f4, zVi h2 k5 14 f5, zVi r1_2 k6 4 f6, zVi r2_3 k7 14 f7, zVi r2_8 k8 28 f8, zVi r2_9 k9 28 f9, zVl r0_0 k10 14 (vp_updL s_1.2.2.1 s_1.2.1.toNatClampNeg x_54), zVl r0_1 k11 14 s_1.2.2.2]) hP hD [] hC hk1 hFc hP1 hD1 [] (of_decide_eq_true rfl) (of_decide_eq_true rfl) rfl rfl
      generalize H1 = H at hP hS ⊢
      refine W.eq (g2 := F0 m 133 ls [.long o_55, .int s_1.2.1, .ref r0_1]) (by rw [hw_58]) ?_
      refine va_last hx hb hK hP hD hS 11 7 rfl rfl h_11 dX8_sample_133 (fun H locs hP hD hS => ?_)
      have hP : va_P (dC, dI) vwCl [zV8 h0 r0_0 r0_1, zV9 h1 v1_0 r1_1 r1_2 r1_3 r1_4 v1_5 r1_6 r1_7 r1_8, zV4 r1_6 v2_0 v2_1 r2_2 r2_3 r2_4 r2_5 r2_6 r2_7 r2_8 r2_9, zV2 r1_7 v3_0 v3_1 v3_2 r3_3 r3_4 r3_5, zVi r3_3 k4 14 f4, zVi h2 k5 14 f5, zVi r1_2 k6 4 f6, zVi r2_3 k7 14 f7, zVi r2_8 k8 28 f8, zVi r2_9 k9 28 f9, zVl r0_0 k10 14 (vp_updL s_1.2.2.1 s_1.2.1.toNatClampNeg x_54), zVl r0_1 k11 14 (vp_updL s_1.2.2.2 s_1.2.1.toNatClampNeg o_55)] H := hP
      have hD := zDW hD hP rfl
      refine lv_goto (tgt := 231) hx hb dX8_sample_134 (of_decide_eq_true rfl) ?_
      refine lv_iinc (v := (s_1.2.1 + 1)) (lv' := [(6, .int (s_1.2.1 + 1)), (11, .long ((o_50 - o_46) + (1 : Int64))), (9, .long o_46), (4, .long x_45), (8, .int (f7 s_1.2.1.toNatClampNeg)), (7, .int o_7), (0, .ref h0), (1, .ref h1), (2, .ref h2)]) hx hb dX8_sample_231 hl (k := 5) rfl rfl (of_decide_eq_true rfl) rfl (fun ls hl => ?_)
      refine lv_goto (tgt := 7) hx hb dX8_sample_234 (of_decide_eq_true rfl) ?_
      exact ih_1 (x_45, (s_1.2.1 + 1), (vp_updL s_1.2.2.1 s_1.2.1.toNatClampNeg x_54), (vp_updL s_1.2.2.2 s_1.2.1.toNatClampNeg o_55)) H locs ls hfn hP hD hS (lv_sub hl [0, 3, 6, 7, 8] rfl)
  exact lp_1 _ (p3.toInt64, 0, f10, f11) s.heap [] ls hfn hP hD hS (lv_sub hl [0, 1, 2, 3, 4] rfl)
theorem zn_X9_settle_X9 : ∀ w ∈ wsX90, w ∈ wsX9_settle := fun _ h => List.mem_cons_of_mem _ (List.mem_append_left _ (List.mem_append_left _ (List.mem_append_left _ (List.mem_append_right _ h))))
theorem zw_X9_settle_566 : Cond.fieldLink RX9 34 "ShortEnough$Task" "groups" "LShortEnough$Groups;" ∈ wsX9_settle := List.mem_of_getElem? (i := 1) (by decide +kernel)
theorem zw_X9_settle_567 : Cond.fieldLink RX9 27 "ShortEnough$Task" "numbers" "LShortEnough$Numbers;" ∈ wsX9_settle := List.mem_of_getElem? (i := 2) (by decide +kernel)
theorem zw_X9_settle_568 : Cond.fieldLink RX9 41 "ShortEnough$Task" "ranges" "LShortEnough$Ranges;" ∈ wsX9_settle := List.mem_of_getElem? (i := 3) (by decide +kernel)
set_option maxHeartbeats 4000000 in
set_option maxRecDepth 100000 in
theorem zf_X9_settle (l : Launch) (dC : Nat → ClassId) (dI : Nat → Nat → Nat) (h0 : Nat) (v0_0 : Int32) (r0_1 : Nat) (r0_2 : Nat) (r0_3 : Nat) (r0_4 : Nat) (v0_5 : Int32) (r0_6 : Nat) (r0_7 : Nat) (r0_8 : Nat) (v1_0 : Int32) (v1_1 : Int32) (v1_2 : Int32) (r1_3 : Nat) (r1_4 : Nat) (r1_5 : Nat) (v2_0 : Int32) (v2_1 : Int32) (r2_2 : Nat) (r2_3 : Nat) (r2_4 : Nat) (r2_5 : Nat) (r2_6 : Nat) (r2_7 : Nat) (r2_8 : Nat) (r2_9 : Nat) (k3 : Nat) (f3 : Nat → Int32) (k4 : Nat) (f4 : Nat → Int32) (k5 : Nat) (f5 : Nat → Int32) (k6 : Nat) (f6 : Nat → Int32) (k7 : Nat) (f7 : Nat → Int32) (r8_0 : Nat) (r8_1 : Nat) (r8_2 : Nat) (k9 : Nat) (f9 : Nat → Int32) (k10 : Nat) (f10 : Nat → Int32) (k11 : Nat) (f11 : Nat → Int32) (k12 : Nat) (f12 : Nat → Int64) (k13 : Nat) (f13 : Nat → Int64) (k14 : Nat) (f14 : Nat → Int32) (o : Int32 × Int32 × Int32 × (Nat → Int32) × (Nat → Int32) × (Nat → Int32) × (Nat → Int64) × (Nat → Int64) × (Nat → Int32)) (hfn : fn_X9_settle v2_0 f3 f4 f5 f6 f7 f9 f10 f11 f12 f13 f14 = some o) (sz : Nat) : zNv [(RX6, 83, yX11_apply, RX11)] l yX9_settle wsX9_settle ({ frames := 6, cells := 0, slots := 0, locals := 160 }) (dC, dI) vwCl [.ref h0] [zV9 h0 v0_0 r0_1 r0_2 r0_3 r0_4 v0_5 r0_6 r0_7 r0_8, zV2 r0_7 v1_0 v1_1 v1_2 r1_3 r1_4 r1_5, zV4 r0_6 v2_0 v2_1 r2_2 r2_3 r2_4 r2_5 r2_6 r2_7 r2_8 r2_9, zVi r2_7 k3 14 f3, zVi r1_3 k4 14 f4, zVi r1_5 k5 14 f5, zVi r1_4 k6 14 f6, zVi r2_4 k7 14 f7, zV6 r0_8 r8_0 r8_1 r8_2, zVi r2_3 k9 14 f9, zVi r2_8 k10 28 f10, zVi r2_9 k11 28 f11, zVl r8_0 k12 14 f12, zVl r8_1 k13 14 f13, zVi r8_2 k14 14 f14] [(k3, .int), (k4, .int), (k5, .int), (k6, .int), (k7, .int), (k9, .int), (k10, .int), (k11, .int), (k12, .long), (k13, .long), (k14, .boolean)] (fun _ => True) [zV9 h0 v0_0 r0_1 r0_2 r0_3 r0_4 v0_5 r0_6 r0_7 r0_8, zV2 r0_7 o.1 o.2.1 o.2.2.1 r1_3 r1_4 r1_5, zV4 r0_6 v2_0 v2_1 r2_2 r2_3 r2_4 r2_5 r2_6 r2_7 r2_8 r2_9, zVi r2_7 k3 14 f3, zVi r1_3 k4 14 o.2.2.2.1, zVi r1_5 k5 14 o.2.2.2.2.1, zVi r1_4 k6 14 o.2.2.2.2.2.1, zVi r2_4 k7 14 f7, zV6 r0_8 r8_0 r8_1 r8_2, zVi r2_3 k9 14 f9, zVi r2_8 k10 28 f10, zVi r2_9 k11 28 f11, zVl r8_0 k12 14 o.2.2.2.2.2.2.1, zVl r8_1 k13 14 o.2.2.2.2.2.2.2.1, zVi r8_2 k14 14 o.2.2.2.2.2.2.2.2] [(k3, .int), (k4, .int), (k5, .int), (k6, .int), (k7, .int), (k9, .int), (k10, .int), (k11, .int), (k12, .long), (k13, .long), (k14, .boolean)] sz := by
  refine zgoNv (cc := cX9_settle) (maxL := 1) (ret := none) (C0 := RX9) (lv0 := [(0, .ref h0)]) zpl_X9 rfl rfl rfl (Nat.le_of_ble_eq_true rfl) ?_
  intro p e s m below meth c A ls Q hN hx hb hr hts hown hlocks hml hP hK hD hA hS hl hQ
  have hn0 : va_Nw (.methodLinkNest RX6 83 yX11_apply RX11) s := hN.1
  unfold fn_X9_settle at hfn
  refine lv_aload_n hx hb dX9_settle_0 rfl (lv_at hl 0 rfl) ?_
  refine va_get (D := (dC, dI)) (ci := 9) (v := .ref r0_7) (C := RX9) (T := TX9) (N := 9) hx hb hts zn_X9_settle_X9 hown hK hP 0 rfl rfl 7 (of_decide_eq_true rfl) (hts (.fieldLink RX9 34 "ShortEnough$Task" "groups" "LShortEnough$Groups;") zw_X9_settle_566) (fun _ h9 => h9) rfl dX9_settle_1 ?_
  refine lv_aload_n hx hb dX9_settle_4 rfl (lv_at hl 0 rfl) ?_
  refine va_get (D := (dC, dI)) (ci := 9) (v := .ref r0_6) (C := RX9) (T := TX9) (N := 9) hx hb hts zn_X9_settle_X9 hown hK hP 0 rfl rfl 6 (of_decide_eq_true rfl) (hts (.fieldLink RX9 27 "ShortEnough$Task" "numbers" "LShortEnough$Numbers;") zw_X9_settle_567) (fun _ h9 => h9) rfl dX9_settle_5 ?_
  obtain ⟨o_1, hqo_1, hfn⟩ := zb_s hfn
  refine zcVv (ci := 2) (rest := []) (pc' := 11) (ws' := [zV9 h0 v0_0 r0_1 r0_2 r0_3 r0_4 v0_5 r0_6 r0_7 r0_8, zV2 r0_7 o_1.1 o_1.2.1 o_1.2.2.1 r1_3 r1_4 r1_5, zV4 r0_6 v2_0 v2_1 r2_2 r2_3 r2_4 r2_5 r2_6 r2_7 r2_8 r2_9, zVi r2_7 k3 14 f3, zVi r1_3 k4 14 o_1.2.2.2.1, zVi r1_5 k5 14 o_1.2.2.2.2.1, zVi r1_4 k6 14 o_1.2.2.2.2.2, zVi r2_4 k7 14 f7, zV6 r0_8 r8_0 r8_1 r8_2, zVi r2_3 k9 14 f9, zVi r2_8 k10 28 f10, zVi r2_9 k11 28 f11, zVl r8_0 k12 14 f12, zVl r8_1 k13 14 f13, zVi r8_2 k14 14 f14]) hP hK hD hS hA ⟨hx, hb, hml, hown, hts⟩ (zf_X2_gather l dC dI r0_7 r0_6 v1_0 v1_1 v1_2 r1_3 r1_4 r1_5 v2_0 v2_1 r2_2 r2_3 r2_4 r2_5 r2_6 r2_7 r2_8 r2_9 k3 f3 k4 f4 k5 f5 k6 f6 k7 f7 o_1 hqo_1 s.heap.size) (cwV 1 hts gX9_settle_X2_gather rfl rfl rfl zhd_X2_gather ⟨Nat.le_of_ble_eq_true rfl, Nat.le_of_ble_eq_true rfl⟩) [1, 2, 3, 4, 5, 6, 7] rfl (of_decide_eq_true rfl) [0, 1, 2, 3, 4] rfl rfl rfl rfl hl.1 rfl (Nat.le_of_ble_eq_true rfl) dX9_settle_8 ⟨Nat.le_of_ble_eq_true rfl, Nat.le_of_ble_eq_true rfl⟩ [none, some 0, some 1, some 2, some 3, some 4, some 5, some 6] (of_decide_eq_true rfl) (of_decide_eq_true rfl) rfl rfl rfl (fun H locs hP hD hS => ?_)
  refine lv_aload_n hx hb dX9_settle_11 rfl (lv_at hl 0 rfl) ?_
  refine va_get (D := (dC, dI)) (ci := 9) (v := .ref r0_8) (C := RX9) (T := TX9) (N := 9) hx hb hts zn_X9_settle_X9 hown hK hP 0 rfl rfl 8 (of_decide_eq_true rfl) (hts (.fieldLink RX9 41 "ShortEnough$Task" "ranges" "LShortEnough$Ranges;") zw_X9_settle_568) (fun _ h9 => h9) rfl dX9_settle_12 ?_
  refine lv_aload_n hx hb dX9_settle_15 rfl (lv_at hl 0 rfl) ?_
  refine va_get (D := (dC, dI)) (ci := 9) (v := .ref r0_6) (C := RX9) (T := TX9) (N := 9) hx hb hts zn_X9_settle_X9 hown hK hP 0 rfl rfl 6 (of_decide_eq_true rfl) (hts (.fieldLink RX9 27 "ShortEnough$Task" "numbers" "LShortEnough$Numbers;") zw_X9_settle_567) (fun _ h9 => h9) rfl dX9_settle_16 ?_
  refine lv_iconst (v := (-1)) hx hb dX9_settle_19 zci_m1 ?_
  refine lv_iconst (v := 0) hx hb dX9_settle_20 zci_0 ?_
  obtain ⟨o_5, hqo_5, hfn⟩ := zb_s hfn
  refine zcNVv (ci := 6) (rest := []) (pc' := 24) (ws' := [zV9 h0 v0_0 r0_1 r0_2 r0_3 r0_4 v0_5 r0_6 r0_7 r0_8, zV2 r0_7 o_1.1 o_1.2.1 o_1.2.2.1 r1_3 r1_4 r1_5, zV4 r0_6 v2_0 v2_1 r2_2 r2_3 r2_4 r2_5 r2_6 r2_7 r2_8 r2_9, zVi r2_7 k3 14 f3, zVi r1_3 k4 14 o_1.2.2.2.1, zVi r1_5 k5 14 o_1.2.2.2.2.1, zVi r1_4 k6 14 o_1.2.2.2.2.2, zVi r2_4 k7 14 f7, zV6 r0_8 r8_0 r8_1 r8_2, zVi r2_3 k9 14 f9, zVi r2_8 k10 28 f10, zVi r2_9 k11 28 f11, zVl r8_0 k12 14 o_5.1, zVl r8_1 k13 14 o_5.2.1, zVi r8_2 k14 14 o_5.2.2]) hP hK hD hS hA ⟨hx, hb, hml, hown, hts⟩ (zf_X6_fill l dC dI r0_8 r0_6 (-1) 0 r8_0 r8_1 r8_2 v2_0 v2_1 r2_2 r2_3 r2_4 r2_5 r2_6 r2_7 r2_8 r2_9 k9 f9 k10 f10 k11 f11 k12 f12 k13 f13 k14 f14 o_5 hqo_5 H.size) ⟨hn0, trivial⟩ (cwV 3 hts gX9_settle_X6_fill rfl rfl rfl zhd_X6_fill ⟨Nat.le_of_ble_eq_true rfl, Nat.le_of_ble_eq_true rfl⟩) [8, 2, 9, 10, 11, 12, 13, 14] rfl (of_decide_eq_true rfl) [5, 6, 7, 8, 9, 10] rfl rfl rfl rfl hl.1 rfl (Nat.le_of_ble_eq_true rfl) dX9_settle_21 ⟨Nat.le_of_ble_eq_true rfl, Nat.le_of_ble_eq_true rfl⟩ [none, none, some 1, none, none, none, none, none, some 0, some 2, some 3, some 4, some 5, some 6, some 7] (of_decide_eq_true rfl) (of_decide_eq_true rfl) rfl rfl rfl (fun H locs hP hD hS => ?_)
  have ho := Option.some.inj hfn
  subst ho
  exact zrv hx hb hr hK hP hD hS hQ trivial hlocks dX9_settle_24
