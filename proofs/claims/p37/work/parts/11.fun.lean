theorem zn_X9_castsOf_X9 : ∀ w ∈ wsX90, w ∈ wsX9_castsOf := fun _ h => List.mem_cons_of_mem _ (List.mem_append_left _ (List.mem_append_left _ (List.mem_append_right _ h)))
theorem zw_X9_castsOf_206 : Cond.fieldLink RX9 27 "ShortEnough$Task" "numbers" "LShortEnough$Numbers;" ∈ wsX9_castsOf := List.mem_of_getElem? (i := 1) (by decide +kernel)
theorem zn_X9_castsOf_X4 : ∀ w ∈ wsX40, w ∈ wsX9_castsOf := fun _ h => List.mem_cons_of_mem _ (List.mem_append_left _ (List.mem_append_right _ h))
theorem zw_X9_castsOf_208 : Cond.fieldLink RX9 52 "ShortEnough$Numbers" "count" "I" ∈ wsX9_castsOf := List.mem_of_getElem? (i := 2) (by decide +kernel)
set_option maxHeartbeats 4000000 in
set_option maxRecDepth 100000 in
theorem zf_X9_castsOf (l : Launch) (dC : Nat → ClassId) (dI : Nat → Nat → Nat) (h0 : Nat) (h1 : Nat) (v0_0 : Int32) (r0_1 : Nat) (r0_2 : Nat) (r0_3 : Nat) (r0_4 : Nat) (v0_5 : Int32) (r0_6 : Nat) (r0_7 : Nat) (r0_8 : Nat) (v1_0 : Int32) (v1_1 : Int32) (r1_2 : Nat) (r1_3 : Nat) (r1_4 : Nat) (r1_5 : Nat) (r1_6 : Nat) (r1_7 : Nat) (r1_8 : Nat) (r1_9 : Nat) (k2 : Nat) (f2 : Nat → Int32) (v3_0 : Int32) (v3_1 : Int32) (v3_2 : Int32) (r3_3 : Nat) (r3_4 : Nat) (r3_5 : Nat) (k4 : Nat) (f4 : Nat → Int32) (k5 : Nat) (f5 : Nat → Int32) (o : Int32) (hfn : fn_X9_castsOf v1_0 f2 f4 f5 = some o) (sz : Nat) : zMi l yX9_castsOf wsX9_castsOf ({ frames := 1, cells := 0, slots := 0, locals := 23 }) (dC, dI) vwCl [.ref h0, .ref h1] [zV9 h0 v0_0 r0_1 r0_2 r0_3 r0_4 v0_5 r0_6 r0_7 r0_8, zV4 r0_6 v1_0 v1_1 r1_2 r1_3 r1_4 r1_5 r1_6 r1_7 r1_8 r1_9, zVi r1_8 k2 28 f2, zV2 r0_7 v3_0 v3_1 v3_2 r3_3 r3_4 r3_5, zVi r3_3 k4 14 f4, zVi h1 k5 14 f5] [(k2, .int), (k4, .int), (k5, .int)] (fun r _ => r = o) [zV9 h0 v0_0 r0_1 r0_2 r0_3 r0_4 v0_5 r0_6 r0_7 r0_8, zV4 r0_6 v1_0 v1_1 r1_2 r1_3 r1_4 r1_5 r1_6 r1_7 r1_8 r1_9, zVi r1_8 k2 28 f2, zV2 r0_7 v3_0 v3_1 v3_2 r3_3 r3_4 r3_5, zVi r3_3 k4 14 f4, zVi h1 k5 14 f5] [(k2, .int), (k4, .int), (k5, .int)] sz := by
  refine zgoi (cc := cX9_castsOf) (maxL := 6) (ret := (some .int)) (C0 := RX9) (lv0 := [(0, .ref h0), (1, .ref h1)]) zpl_X9 rfl rfl rfl (Nat.le_of_ble_eq_true rfl) ?_
  intro p e s m below meth c A ls Q hx hb hr hts hown hlocks hml hP hK hD hA hS hl hQ
  unfold fn_X9_castsOf at hfn
  refine lv_iconst (v := 0) hx hb dX9_castsOf_0 zci_0 ?_
  refine lv_istore_n (lv' := [(2, .int 0), (0, .ref h0), (1, .ref h1)]) hx hb dX9_castsOf_1 rfl hl (of_decide_eq_true rfl) rfl (fun ls hl => ?_)
  refine lv_iconst (v := 0) hx hb dX9_castsOf_2 zci_0 ?_
  refine lv_istore_n (lv' := [(3, .int 0), (2, .int 0), (0, .ref h0), (1, .ref h1)]) hx hb dX9_castsOf_3 rfl hl (of_decide_eq_true rfl) rfl (fun ls hl => ?_)
  obtain ⟨bd_1, ebd_1, hfn⟩ := zl_g hfn
  have lp_1 : ∀ (n : Nat) (s_1 : Int32 × Int32) (H : Heap) (locs : List Loc) (ls : Array Slot), zl bd_1 n s_1 = some o → va_P (dC, dI) vwCl [zV9 h0 v0_0 r0_1 r0_2 r0_3 r0_4 v0_5 r0_6 r0_7 r0_8, zV4 r0_6 v1_0 v1_1 r1_2 r1_3 r1_4 r1_5 r1_6 r1_7 r1_8 r1_9, zVi r1_8 k2 28 f2, zV2 r0_7 v3_0 v3_1 v3_2 r3_3 r3_4 r3_5, zVi r3_3 k4 14 f4, zVi h1 k5 14 f5] H → va_D A [zV9 h0 v0_0 r0_1 r0_2 r0_3 r0_4 v0_5 r0_6 r0_7 r0_8, zV4 r0_6 v1_0 v1_1 r1_2 r1_3 r1_4 r1_5 r1_6 r1_7 r1_8 r1_9, zVi r1_8 k2 28 f2, zV2 r0_7 v3_0 v3_1 v3_2 r3_3 r3_4 r3_5, zVi r3_3 k4 14 f4, zVi h1 k5 14 f5] → va_S A s.heap H locs → lv_has ls 6 [(3, .int s_1.2), (2, .int s_1.1), (0, .ref h0), (1, .ref h1)] → W p l e (headSpec wsX9_castsOf ({ frames := 1, cells := 0, slots := 0, locals := 23 })).room s m ([.ref h0, .ref h1] : List Value).toArray below meth c H locs 0 0 Q (F0 m 4 ls []) := by
    intro n
    induction n with
    | zero => exact fun _ _ _ _ hfn => (zl_0 hfn).elim
    | succ n ih_1 =>
      intro s_1 H locs ls hfn hP hD hS hl
      have hfn := zl_s ebd_1 hfn
      refine lv_iload_n hx hb dX9_castsOf_4 rfl (lv_at hl 0 rfl) ?_
      refine lv_aload_n hx hb dX9_castsOf_5 rfl (lv_at hl 2 rfl) ?_
      refine va_get (D := (dC, dI)) (ci := 9) (v := .ref r0_6) (C := RX9) (T := TX9) (N := 9) hx hb hts zn_X9_castsOf_X9 hown hK hP 0 rfl rfl 6 (of_decide_eq_true rfl) (hts (.fieldLink RX9 27 "ShortEnough$Task" "numbers" "LShortEnough$Numbers;") zw_X9_castsOf_206) (fun _ h9 => h9) rfl dX9_castsOf_6 ?_
      refine va_get (D := (dC, dI)) (ci := 4) (v := .int v1_0) (C := RX4) (T := TX4) (N := 10) hx hb hts zn_X9_castsOf_X4 hown hK hP 1 rfl rfl 0 (of_decide_eq_true rfl) (hts (.fieldLink RX9 52 "ShortEnough$Numbers" "count" "I") zw_X9_castsOf_208) (fun _ h9 => h9) rfl dX9_castsOf_9 ?_
      refine lv_icmp_ge (tgt := 73) hx hb dX9_castsOf_12 (of_decide_eq_true rfl) (fun c_2 => ?_) (fun c_2 => ?_)
      · have hfn := (if_pos c_2).symm.trans hfn
        refine lv_iload_n hx hb dX9_castsOf_73 rfl (lv_at hl 1 rfl) ?_
        have ho := Option.some.inj hfn
        subst ho
        exact zri hx hb hr hK hP hD hS hQ rfl hlocks dX9_castsOf_74
      have hfn := (if_neg c_2).symm.trans hfn
      refine lv_iconst (v := 0) hx hb dX9_castsOf_15 zci_0 ?_
      refine lv_istore (lv' := [(4, .int 0), (3, .int s_1.2), (2, .int s_1.1), (0, .ref h0), (1, .ref h1)]) hx hb dX9_castsOf_16 hl (of_decide_eq_true rfl) rfl (fun ls hl => ?_)
      obtain ⟨bd_3, ebd_3, hfn⟩ := zl_g hfn
      have lp_3 : ∀ (n : Nat) (s_3 : Int32 × Int32) (H : Heap) (locs : List Loc) (ls : Array Slot), zl bd_3 n s_3 = some o → va_P (dC, dI) vwCl [zV9 h0 v0_0 r0_1 r0_2 r0_3 r0_4 v0_5 r0_6 r0_7 r0_8, zV4 r0_6 v1_0 v1_1 r1_2 r1_3 r1_4 r1_5 r1_6 r1_7 r1_8 r1_9, zVi r1_8 k2 28 f2, zV2 r0_7 v3_0 v3_1 v3_2 r3_3 r3_4 r3_5, zVi r3_3 k4 14 f4, zVi h1 k5 14 f5] H → va_D A [zV9 h0 v0_0 r0_1 r0_2 r0_3 r0_4 v0_5 r0_6 r0_7 r0_8, zV4 r0_6 v1_0 v1_1 r1_2 r1_3 r1_4 r1_5 r1_6 r1_7 r1_8 r1_9, zVi r1_8 k2 28 f2, zV2 r0_7 v3_0 v3_1 v3_2 r3_3 r3_4 r3_5, zVi r3_3 k4 14 f4, zVi h1 k5 14 f5] → va_S A s.heap H locs → lv_has ls 6 [(4, .int s_3.2), (3, .int s_1.2), (2, .int s_3.1), (0, .ref h0), (1, .ref h1)] → W p l e (headSpec wsX9_castsOf ({ frames := 1, cells := 0, slots := 0, locals := 23 })).room s m ([.ref h0, .ref h1] : List Value).toArray below meth c H locs 0 0 Q (F0 m 18 ls []) := by
        intro n
        induction n with
        | zero => exact fun _ _ _ _ hfn => (zl_0 hfn).elim
        | succ n ih_3 =>
          intro s_3 H locs ls hfn hP hD hS hl
          have hfn := zl_s ebd_3 hfn
          refine lv_iload hx hb dX9_castsOf_18 (lv_at hl 0 rfl) ?_
          refine lv_iconst (v := 2) hx hb dX9_castsOf_20 zci_2 ?_
          refine lv_icmp_ge (tgt := 67) hx hb dX9_castsOf_21 (of_decide_eq_true rfl) (fun c_4 => ?_) (fun c_4 => ?_)
          · have hfn := (if_pos c_4).symm.trans hfn
            refine lv_iinc (v := (s_1.2 + 1)) (lv' := [(3, .int (s_1.2 + 1)), (4, .int s_3.2), (2, .int s_3.1), (0, .ref h0), (1, .ref h1)]) hx hb dX9_castsOf_67 hl (k := 1) rfl rfl (of_decide_eq_true rfl) rfl (fun ls hl => ?_)
            refine lv_goto (tgt := 4) hx hb dX9_castsOf_70 (of_decide_eq_true rfl) ?_
            exact ih_1 (s_3.1, (s_1.2 + 1)) H locs ls hfn hP hD hS (lv_sub hl [0, 2, 3, 4] rfl)
          have hfn := (if_neg c_4).symm.trans hfn
          refine lv_aload_n hx hb dX9_castsOf_24 rfl (lv_at hl 3 rfl) ?_
          refine va_get (D := (dC, dI)) (ci := 9) (v := .ref r0_6) (C := RX9) (T := TX9) (N := 9) hx hb hts zn_X9_castsOf_X9 hown hK hP 0 rfl rfl 6 (of_decide_eq_true rfl) (hts (.fieldLink RX9 27 "ShortEnough$Task" "numbers" "LShortEnough$Numbers;") zw_X9_castsOf_206) (fun _ h9 => h9) rfl dX9_castsOf_25 ?_
          refine lv_iload_n hx hb dX9_castsOf_28 rfl (lv_at hl 1 rfl) ?_
          refine lv_iload hx hb dX9_castsOf_29 (lv_at hl 0 rfl) ?_
          obtain ⟨o_5, hqo_5, hfn⟩ := zb_s hfn
          refine zcVi (ci := 4) (rest := []) (pc' := 34) (ws' := [zV9 h0 v0_0 r0_1 r0_2 r0_3 r0_4 v0_5 r0_6 r0_7 r0_8, zV4 r0_6 v1_0 v1_1 r1_2 r1_3 r1_4 r1_5 r1_6 r1_7 r1_8 r1_9, zVi r1_8 k2 28 f2, zV2 r0_7 v3_0 v3_1 v3_2 r3_3 r3_4 r3_5, zVi r3_3 k4 14 f4, zVi h1 k5 14 f5]) hP hK hD hS hA ⟨hx, hb, hml, hown, hts⟩ (zf_X4_madeOf l dC dI r0_6 s_1.2 s_3.2 v1_0 v1_1 r1_2 r1_3 r1_4 r1_5 r1_6 r1_7 r1_8 r1_9 k2 f2 o_5 hqo_5 H.size) (cwV 2 hts gX9_castsOf_X4_madeOf rfl rfl rfl zhd_X4_madeOf ⟨Nat.le_of_ble_eq_true rfl, Nat.le_of_ble_eq_true rfl⟩) [1, 2] rfl (of_decide_eq_true rfl) [0] rfl rfl rfl rfl hl.1 rfl (Nat.le_of_ble_eq_true rfl) dX9_castsOf_31 ⟨Nat.le_of_ble_eq_true rfl, Nat.le_of_ble_eq_true rfl⟩ [none, some 0, some 1] (of_decide_eq_true rfl) (of_decide_eq_true rfl) rfl rfl rfl (fun H locs hP hD hS => ?_)
          refine lv_istore (lv' := [(5, .int o_5), (4, .int s_3.2), (3, .int s_1.2), (2, .int s_3.1), (0, .ref h0), (1, .ref h1)]) hx hb dX9_castsOf_34 hl (of_decide_eq_true rfl) rfl (fun ls hl => ?_)
          refine lv_iload hx hb dX9_castsOf_36 (lv_at hl 0 rfl) ?_
          refine lv_iconst (v := (-1)) hx hb dX9_castsOf_38 zci_m1 ?_
          refine lv_icmp_eq (tgt := 61) hx hb dX9_castsOf_39 (of_decide_eq_true rfl) (fun c_9 => ?_) (fun c_9 => ?_)
          · have hfn := (if_pos c_9).symm.trans hfn
            refine lv_iinc (v := (s_3.2 + 1)) (lv' := [(4, .int (s_3.2 + 1)), (5, .int o_5), (3, .int s_1.2), (2, .int s_3.1), (0, .ref h0), (1, .ref h1)]) hx hb dX9_castsOf_61 hl (k := 1) rfl rfl (of_decide_eq_true rfl) rfl (fun ls hl => ?_)
            refine lv_goto (tgt := 18) hx hb dX9_castsOf_64 (of_decide_eq_true rfl) ?_
            exact ih_3 (s_3.1, (s_3.2 + 1)) H locs ls hfn hP hD hS (lv_sub hl [0, 2, 3, 4, 5] rfl)
          have hfn := (if_neg c_9).symm.trans hfn
          refine lv_aload_n hx hb dX9_castsOf_42 rfl (lv_at hl 4 rfl) ?_
          refine lv_aload_n hx hb dX9_castsOf_43 rfl (lv_at hl 5 rfl) ?_
          refine lv_iload hx hb dX9_castsOf_44 (lv_at hl 0 rfl) ?_
          obtain ⟨o_10, hqo_10, hfn⟩ := zb_s hfn
          refine zcVi (ci := 9) (rest := []) (pc' := 49) (ws' := [zV9 h0 v0_0 r0_1 r0_2 r0_3 r0_4 v0_5 r0_6 r0_7 r0_8, zV4 r0_6 v1_0 v1_1 r1_2 r1_3 r1_4 r1_5 r1_6 r1_7 r1_8 r1_9, zVi r1_8 k2 28 f2, zV2 r0_7 v3_0 v3_1 v3_2 r3_3 r3_4 r3_5, zVi r3_3 k4 14 f4, zVi h1 k5 14 f5]) hP hK hD hS hA ⟨hx, hb, hml, hown, hts⟩ (zf_X9_formatOf l dC dI h0 h1 o_5 v0_0 r0_1 r0_2 r0_3 r0_4 v0_5 r0_6 r0_7 r0_8 v1_0 v1_1 r1_2 r1_3 r1_4 r1_5 r1_6 r1_7 r1_8 r1_9 v3_0 v3_1 v3_2 r3_3 r3_4 r3_5 k4 f4 k5 f5 o_10 hqo_10 H.size) (cwV 2 hts gX9_castsOf_X9_formatOf rfl rfl rfl zhd_X9_formatOf ⟨Nat.le_of_ble_eq_true rfl, Nat.le_of_ble_eq_true rfl⟩) [0, 1, 3, 4, 5] rfl (of_decide_eq_true rfl) [1, 2] rfl rfl rfl rfl hl.1 rfl (Nat.le_of_ble_eq_true rfl) dX9_castsOf_46 ⟨Nat.le_of_ble_eq_true rfl, Nat.le_of_ble_eq_true rfl⟩ [some 0, some 1, none, some 2, some 3, some 4] (of_decide_eq_true rfl) (of_decide_eq_true rfl) rfl rfl rfl (fun H locs hP hD hS => ?_)
          refine lv_aload_n hx hb dX9_castsOf_49 rfl (lv_at hl 4 rfl) ?_
          refine lv_aload_n hx hb dX9_castsOf_50 rfl (lv_at hl 5 rfl) ?_
          refine lv_iload_n hx hb dX9_castsOf_51 rfl (lv_at hl 2 rfl) ?_
          obtain ⟨o_14, hqo_14, hfn⟩ := zb_s hfn
          refine zcVi (ci := 9) (rest := [.int o_10]) (pc' := 55) (ws' := [zV9 h0 v0_0 r0_1 r0_2 r0_3 r0_4 v0_5 r0_6 r0_7 r0_8, zV4 r0_6 v1_0 v1_1 r1_2 r1_3 r1_4 r1_5 r1_6 r1_7 r1_8 r1_9, zVi r1_8 k2 28 f2, zV2 r0_7 v3_0 v3_1 v3_2 r3_3 r3_4 r3_5, zVi r3_3 k4 14 f4, zVi h1 k5 14 f5]) hP hK hD hS hA ⟨hx, hb, hml, hown, hts⟩ (zf_X9_formatOf l dC dI h0 h1 s_1.2 v0_0 r0_1 r0_2 r0_3 r0_4 v0_5 r0_6 r0_7 r0_8 v1_0 v1_1 r1_2 r1_3 r1_4 r1_5 r1_6 r1_7 r1_8 r1_9 v3_0 v3_1 v3_2 r3_3 r3_4 r3_5 k4 f4 k5 f5 o_14 hqo_14 H.size) (cwV 2 hts gX9_castsOf_X9_formatOf rfl rfl rfl zhd_X9_formatOf ⟨Nat.le_of_ble_eq_true rfl, Nat.le_of_ble_eq_true rfl⟩) [0, 1, 3, 4, 5] rfl (of_decide_eq_true rfl) [1, 2] rfl rfl rfl rfl hl.1 rfl (Nat.le_of_ble_eq_true rfl) dX9_castsOf_52 ⟨Nat.le_of_ble_eq_true rfl, Nat.le_of_ble_eq_true rfl⟩ [some 0, some 1, none, some 2, some 3, some 4] (of_decide_eq_true rfl) (of_decide_eq_true rfl) rfl rfl rfl (fun H locs hP hD hS => ?_)
          refine lv_icmp_eq (tgt := 61) hx hb dX9_castsOf_55 (of_decide_eq_true rfl) (fun c_18 => ?_) (fun c_18 => ?_)
          · have hfn := (if_pos c_18).symm.trans hfn
            refine lv_iinc (v := (s_3.2 + 1)) (lv' := [(4, .int (s_3.2 + 1)), (5, .int o_5), (3, .int s_1.2), (2, .int s_3.1), (0, .ref h0), (1, .ref h1)]) hx hb dX9_castsOf_61 hl (k := 1) rfl rfl (of_decide_eq_true rfl) rfl (fun ls hl => ?_)
            refine lv_goto (tgt := 18) hx hb dX9_castsOf_64 (of_decide_eq_true rfl) ?_
            exact ih_3 (s_3.1, (s_3.2 + 1)) H locs ls hfn hP hD hS (lv_sub hl [0, 2, 3, 4, 5] rfl)
          have hfn := (if_neg c_18).symm.trans hfn
          refine lv_iinc (v := (s_3.1 + 1)) (lv' := [(2, .int (s_3.1 + 1)), (5, .int o_5), (4, .int s_3.2), (3, .int s_1.2), (0, .ref h0), (1, .ref h1)]) hx hb dX9_castsOf_58 hl (k := 3) rfl rfl (of_decide_eq_true rfl) rfl (fun ls hl => ?_)
          refine lv_iinc (v := (s_3.2 + 1)) (lv' := [(4, .int (s_3.2 + 1)), (2, .int (s_3.1 + 1)), (5, .int o_5), (3, .int s_1.2), (0, .ref h0), (1, .ref h1)]) hx hb dX9_castsOf_61 hl (k := 2) rfl rfl (of_decide_eq_true rfl) rfl (fun ls hl => ?_)
          refine lv_goto (tgt := 18) hx hb dX9_castsOf_64 (of_decide_eq_true rfl) ?_
          exact ih_3 ((s_3.1 + 1), (s_3.2 + 1)) H locs ls hfn hP hD hS (lv_sub hl [0, 3, 1, 4, 5] rfl)
      exact lp_3 _ (s_1.1, 0) H locs ls hfn hP hD hS (lv_sub hl [0, 1, 2, 3, 4] rfl)
  exact lp_1 _ (0, 0) s.heap [] ls hfn hP hD hS (lv_sub hl [0, 1, 2, 3] rfl)
theorem zn_X9_priceOf_X9 : ∀ w ∈ wsX90, w ∈ wsX9_priceOf := fun _ h => List.mem_cons_of_mem _ (List.mem_append_left _ (List.mem_append_left _ (List.mem_append_right _ h)))
theorem zw_X9_priceOf_204 : Cond.fieldLink RX9 49 "ShortEnough$Task" "castPrice" "I" ∈ wsX9_priceOf := List.mem_of_getElem? (i := 1) (by decide +kernel)
theorem zw_X9_priceOf_209 : Cond.fieldLink RX9 27 "ShortEnough$Task" "numbers" "LShortEnough$Numbers;" ∈ wsX9_priceOf := List.mem_of_getElem? (i := 2) (by decide +kernel)
theorem zn_X9_priceOf_X4 : ∀ w ∈ wsX40, w ∈ wsX9_priceOf := fun _ h => List.mem_cons_of_mem _ (List.mem_append_left _ (List.mem_append_right _ h))
theorem zw_X9_priceOf_211 : Cond.fieldLink RX9 52 "ShortEnough$Numbers" "count" "I" ∈ wsX9_priceOf := List.mem_of_getElem? (i := 3) (by decide +kernel)
theorem zw_X9_priceOf_212 : Cond.fieldLink RX9 21 "ShortEnough$Task" "price" "[I" ∈ wsX9_priceOf := List.mem_of_getElem? (i := 4) (by decide +kernel)
set_option maxHeartbeats 4000000 in
set_option maxRecDepth 100000 in
theorem zf_X9_priceOf (l : Launch) (dC : Nat → ClassId) (dI : Nat → Nat → Nat) (h0 : Nat) (h1 : Nat) (v0_0 : Int32) (r0_1 : Nat) (r0_2 : Nat) (r0_3 : Nat) (r0_4 : Nat) (v0_5 : Int32) (r0_6 : Nat) (r0_7 : Nat) (r0_8 : Nat) (v1_0 : Int32) (v1_1 : Int32) (r1_2 : Nat) (r1_3 : Nat) (r1_4 : Nat) (r1_5 : Nat) (r1_6 : Nat) (r1_7 : Nat) (r1_8 : Nat) (r1_9 : Nat) (k2 : Nat) (f2 : Nat → Int32) (v3_0 : Int32) (v3_1 : Int32) (v3_2 : Int32) (r3_3 : Nat) (r3_4 : Nat) (r3_5 : Nat) (k4 : Nat) (f4 : Nat → Int32) (k5 : Nat) (f5 : Nat → Int32) (k6 : Nat) (f6 : Nat → Int32) (o : Int32) (hfn : fn_X9_priceOf v0_0 v0_5 v1_0 f2 f4 f5 f6 = some o) (sz : Nat) : zMi l yX9_priceOf wsX9_priceOf ({ frames := 2, cells := 0, slots := 0, locals := 48 }) (dC, dI) vwCl [.ref h0, .ref h1] [zV9 h0 v0_0 r0_1 r0_2 r0_3 r0_4 v0_5 r0_6 r0_7 r0_8, zV4 r0_6 v1_0 v1_1 r1_2 r1_3 r1_4 r1_5 r1_6 r1_7 r1_8 r1_9, zVi r1_8 k2 28 f2, zV2 r0_7 v3_0 v3_1 v3_2 r3_3 r3_4 r3_5, zVi r3_3 k4 14 f4, zVi h1 k5 14 f5, zVi r0_4 k6 4 f6] [(k2, .int), (k4, .int), (k5, .int), (k6, .int)] (fun r _ => r = o) [zV9 h0 v0_0 r0_1 r0_2 r0_3 r0_4 v0_5 r0_6 r0_7 r0_8, zV4 r0_6 v1_0 v1_1 r1_2 r1_3 r1_4 r1_5 r1_6 r1_7 r1_8 r1_9, zVi r1_8 k2 28 f2, zV2 r0_7 v3_0 v3_1 v3_2 r3_3 r3_4 r3_5, zVi r3_3 k4 14 f4, zVi h1 k5 14 f5, zVi r0_4 k6 4 f6] [(k2, .int), (k4, .int), (k5, .int), (k6, .int)] sz := by
  refine zgoi (cc := cX9_priceOf) (maxL := 5) (ret := (some .int)) (C0 := RX9) (lv0 := [(0, .ref h0), (1, .ref h1)]) zpl_X9 rfl rfl rfl (Nat.le_of_ble_eq_true rfl) ?_
  intro p e s m below meth c A ls Q hx hb hr hts hown hlocks hml hP hK hD hA hS hl hQ
  unfold fn_X9_priceOf at hfn
  refine lv_aload_n hx hb dX9_priceOf_0 rfl (lv_at hl 0 rfl) ?_
  refine va_get (D := (dC, dI)) (ci := 9) (v := .int v0_5) (C := RX9) (T := TX9) (N := 9) hx hb hts zn_X9_priceOf_X9 hown hK hP 0 rfl rfl 5 (of_decide_eq_true rfl) (hts (.fieldLink RX9 49 "ShortEnough$Task" "castPrice" "I") zw_X9_priceOf_204) (fun _ h9 => h9) rfl dX9_priceOf_1 ?_
  refine lv_aload_n hx hb dX9_priceOf_4 rfl (lv_at hl 0 rfl) ?_
  refine lv_aload_n hx hb dX9_priceOf_5 rfl (lv_at hl 1 rfl) ?_
  obtain ⟨o_1, hqo_1, hfn⟩ := zb_s hfn
  refine zcVi (ci := 9) (rest := [.int v0_5]) (pc' := 9) (ws' := [zV9 h0 v0_0 r0_1 r0_2 r0_3 r0_4 v0_5 r0_6 r0_7 r0_8, zV4 r0_6 v1_0 v1_1 r1_2 r1_3 r1_4 r1_5 r1_6 r1_7 r1_8 r1_9, zVi r1_8 k2 28 f2, zV2 r0_7 v3_0 v3_1 v3_2 r3_3 r3_4 r3_5, zVi r3_3 k4 14 f4, zVi h1 k5 14 f5, zVi r0_4 k6 4 f6]) hP hK hD hS hA ⟨hx, hb, hml, hown, hts⟩ (zf_X9_castsOf l dC dI h0 h1 v0_0 r0_1 r0_2 r0_3 r0_4 v0_5 r0_6 r0_7 r0_8 v1_0 v1_1 r1_2 r1_3 r1_4 r1_5 r1_6 r1_7 r1_8 r1_9 k2 f2 v3_0 v3_1 v3_2 r3_3 r3_4 r3_5 k4 f4 k5 f5 o_1 hqo_1 s.heap.size) (cwV 1 hts gX9_priceOf_X9_castsOf rfl rfl rfl zhd_X9_castsOf ⟨Nat.le_of_ble_eq_true rfl, Nat.le_of_ble_eq_true rfl⟩) [0, 1, 2, 3, 4, 5] rfl (of_decide_eq_true rfl) [0, 1, 2] rfl rfl rfl rfl hl.1 rfl (Nat.le_of_ble_eq_true rfl) dX9_priceOf_6 ⟨Nat.le_of_ble_eq_true rfl, Nat.le_of_ble_eq_true rfl⟩ [some 0, some 1, some 2, some 3, some 4, some 5] (of_decide_eq_true rfl) (of_decide_eq_true rfl) rfl rfl rfl (fun H locs hP hD hS => ?_)
  refine lv_imul hx hb dX9_priceOf_9 ?_
  refine lv_istore_n (lv' := [(2, .int (v0_5 * o_1)), (0, .ref h0), (1, .ref h1)]) hx hb dX9_priceOf_10 rfl hl (of_decide_eq_true rfl) rfl (fun ls hl => ?_)
  refine lv_iconst (v := 0) hx hb dX9_priceOf_11 zci_0 ?_
  refine lv_istore_n (lv' := [(3, .int 0), (2, .int (v0_5 * o_1)), (0, .ref h0), (1, .ref h1)]) hx hb dX9_priceOf_12 rfl hl (of_decide_eq_true rfl) rfl (fun ls hl => ?_)
  obtain ⟨bd_5, ebd_5, hfn⟩ := zl_g hfn
  have lp_5 : ∀ (n : Nat) (s_5 : Int32 × Int32) (H : Heap) (locs : List Loc) (ls : Array Slot), zl bd_5 n s_5 = some o → va_P (dC, dI) vwCl [zV9 h0 v0_0 r0_1 r0_2 r0_3 r0_4 v0_5 r0_6 r0_7 r0_8, zV4 r0_6 v1_0 v1_1 r1_2 r1_3 r1_4 r1_5 r1_6 r1_7 r1_8 r1_9, zVi r1_8 k2 28 f2, zV2 r0_7 v3_0 v3_1 v3_2 r3_3 r3_4 r3_5, zVi r3_3 k4 14 f4, zVi h1 k5 14 f5, zVi r0_4 k6 4 f6] H → va_D A [zV9 h0 v0_0 r0_1 r0_2 r0_3 r0_4 v0_5 r0_6 r0_7 r0_8, zV4 r0_6 v1_0 v1_1 r1_2 r1_3 r1_4 r1_5 r1_6 r1_7 r1_8 r1_9, zVi r1_8 k2 28 f2, zV2 r0_7 v3_0 v3_1 v3_2 r3_3 r3_4 r3_5, zVi r3_3 k4 14 f4, zVi h1 k5 14 f5, zVi r0_4 k6 4 f6] → va_S A s.heap H locs → lv_has ls 5 [(3, .int s_5.2), (2, .int s_5.1), (0, .ref h0), (1, .ref h1)] → W p l e (headSpec wsX9_priceOf ({ frames := 2, cells := 0, slots := 0, locals := 48 })).room s m ([.ref h0, .ref h1] : List Value).toArray below meth c H locs 0 0 Q (F0 m 13 ls []) := by
    intro n
    induction n with
    | zero => exact fun _ _ _ _ hfn => (zl_0 hfn).elim
    | succ n ih_5 =>
      intro s_5 H locs ls hfn hP hD hS hl
      have hfn := zl_s ebd_5 hfn
      refine lv_iload_n hx hb dX9_priceOf_13 rfl (lv_at hl 0 rfl) ?_
      refine lv_aload_n hx hb dX9_priceOf_14 rfl (lv_at hl 2 rfl) ?_
      refine va_get (D := (dC, dI)) (ci := 9) (v := .ref r0_6) (C := RX9) (T := TX9) (N := 9) hx hb hts zn_X9_priceOf_X9 hown hK hP 0 rfl rfl 6 (of_decide_eq_true rfl) (hts (.fieldLink RX9 27 "ShortEnough$Task" "numbers" "LShortEnough$Numbers;") zw_X9_priceOf_209) (fun _ h9 => h9) rfl dX9_priceOf_15 ?_
      refine va_get (D := (dC, dI)) (ci := 4) (v := .int v1_0) (C := RX4) (T := TX4) (N := 10) hx hb hts zn_X9_priceOf_X4 hown hK hP 1 rfl rfl 0 (of_decide_eq_true rfl) (hts (.fieldLink RX9 52 "ShortEnough$Numbers" "count" "I") zw_X9_priceOf_211) (fun _ h9 => h9) rfl dX9_priceOf_18 ?_
      refine lv_icmp_ge (tgt := 61) hx hb dX9_priceOf_21 (of_decide_eq_true rfl) (fun c_6 => ?_) (fun c_6 => ?_)
      · have hfn := (if_pos c_6).symm.trans hfn
        refine lv_iload_n hx hb dX9_priceOf_61 rfl (lv_at hl 1 rfl) ?_
        have ho := Option.some.inj hfn
        subst ho
        exact zri hx hb hr hK hP hD hS hQ rfl hlocks dX9_priceOf_62
      have hfn := (if_neg c_6).symm.trans hfn
      refine lv_aload_n hx hb dX9_priceOf_24 rfl (lv_at hl 2 rfl) ?_
      refine lv_aload_n hx hb dX9_priceOf_25 rfl (lv_at hl 3 rfl) ?_
      refine lv_iload_n hx hb dX9_priceOf_26 rfl (lv_at hl 0 rfl) ?_
      obtain ⟨o_7, hqo_7, hfn⟩ := zb_s hfn
      refine zcVi (ci := 9) (rest := []) (pc' := 30) (ws' := [zV9 h0 v0_0 r0_1 r0_2 r0_3 r0_4 v0_5 r0_6 r0_7 r0_8, zV4 r0_6 v1_0 v1_1 r1_2 r1_3 r1_4 r1_5 r1_6 r1_7 r1_8 r1_9, zVi r1_8 k2 28 f2, zV2 r0_7 v3_0 v3_1 v3_2 r3_3 r3_4 r3_5, zVi r3_3 k4 14 f4, zVi h1 k5 14 f5, zVi r0_4 k6 4 f6]) hP hK hD hS hA ⟨hx, hb, hml, hown, hts⟩ (zf_X9_formatOf l dC dI h0 h1 s_5.2 v0_0 r0_1 r0_2 r0_3 r0_4 v0_5 r0_6 r0_7 r0_8 v1_0 v1_1 r1_2 r1_3 r1_4 r1_5 r1_6 r1_7 r1_8 r1_9 v3_0 v3_1 v3_2 r3_3 r3_4 r3_5 k4 f4 k5 f5 o_7 hqo_7 H.size) (cwV 2 hts gX9_priceOf_X9_formatOf rfl rfl rfl zhd_X9_formatOf ⟨Nat.le_of_ble_eq_true rfl, Nat.le_of_ble_eq_true rfl⟩) [0, 1, 3, 4, 5] rfl (of_decide_eq_true rfl) [1, 2] rfl rfl rfl rfl hl.1 rfl (Nat.le_of_ble_eq_true rfl) dX9_priceOf_27 ⟨Nat.le_of_ble_eq_true rfl, Nat.le_of_ble_eq_true rfl⟩ [some 0, some 1, none, some 2, some 3, some 4] (of_decide_eq_true rfl) (of_decide_eq_true rfl) rfl rfl rfl (fun H locs hP hD hS => ?_)
      refine lv_istore (lv' := [(4, .int o_7), (3, .int s_5.2), (2, .int s_5.1), (0, .ref h0), (1, .ref h1)]) hx hb dX9_priceOf_30 hl (of_decide_eq_true rfl) rfl (fun ls hl => ?_)
      refine lv_iload_n hx hb dX9_priceOf_32 rfl (lv_at hl 2 rfl) ?_
      refine lv_aload_n hx hb dX9_priceOf_33 rfl (lv_at hl 3 rfl) ?_
      refine lv_iload hx hb dX9_priceOf_34 (lv_at hl 0 rfl) ?_
      obtain ⟨o_11, hqo_11, hfn⟩ := zb_s hfn
      refine zcVb (ci := 9) (rest := [.int s_5.1]) (pc' := 39) (ws' := [zV9 h0 v0_0 r0_1 r0_2 r0_3 r0_4 v0_5 r0_6 r0_7 r0_8, zV4 r0_6 v1_0 v1_1 r1_2 r1_3 r1_4 r1_5 r1_6 r1_7 r1_8 r1_9, zVi r1_8 k2 28 f2, zV2 r0_7 v3_0 v3_1 v3_2 r3_3 r3_4 r3_5, zVi r3_3 k4 14 f4, zVi h1 k5 14 f5, zVi r0_4 k6 4 f6]) hP hK hD hS hA ⟨hx, hb, hml, hown, hts⟩ (zf_X9_hasFormat l dC dI h0 o_7 v0_0 r0_1 r0_2 r0_3 r0_4 v0_5 r0_6 r0_7 r0_8 o_11 hqo_11 H.size) (cwV 1 hts gX9_priceOf_X9_hasFormat rfl rfl rfl zhd_X9_hasFormat ⟨Nat.le_of_ble_eq_true rfl, Nat.le_of_ble_eq_true rfl⟩) [0] rfl (of_decide_eq_true rfl) [] rfl rfl rfl rfl hl.1 rfl (Nat.le_of_ble_eq_true rfl) dX9_priceOf_36 ⟨Nat.le_of_ble_eq_true rfl, Nat.le_of_ble_eq_true rfl⟩ [some 0] (of_decide_eq_true rfl) (of_decide_eq_true rfl) rfl rfl rfl (fun H locs hw_14n hP hD hS => ?_)
      refine lv_if_eq (tgt := 52) hx hb dX9_priceOf_39 (of_decide_eq_true rfl) (fun c_15 => ?_) (fun c_15 => ?_)
      · have hfn := (if_pos c_15).symm.trans hfn
        refine lv_iconst (v := 0) hx hb dX9_priceOf_52 zci_0 ?_
        refine lv_iadd hx hb dX9_priceOf_53 ?_
        refine lv_istore_n (lv' := [(2, .int (s_5.1 + 0)), (4, .int o_7), (3, .int s_5.2), (0, .ref h0), (1, .ref h1)]) hx hb dX9_priceOf_54 rfl hl (of_decide_eq_true rfl) rfl (fun ls hl => ?_)
        refine lv_iinc (v := (s_5.2 + 1)) (lv' := [(3, .int (s_5.2 + 1)), (2, .int (s_5.1 + 0)), (4, .int o_7), (0, .ref h0), (1, .ref h1)]) hx hb dX9_priceOf_55 hl (k := 2) rfl rfl (of_decide_eq_true rfl) rfl (fun ls hl => ?_)
        refine lv_goto (tgt := 13) hx hb dX9_priceOf_58 (of_decide_eq_true rfl) ?_
        exact ih_5 ((s_5.1 + 0), (s_5.2 + 1)) H locs ls hfn hP hD hS (lv_sub hl [0, 1, 3, 4] rfl)
      have hfn := (if_neg c_15).symm.trans hfn
      refine lv_aload_n hx hb dX9_priceOf_42 rfl (lv_at hl 3 rfl) ?_
      refine va_get (D := (dC, dI)) (ci := 9) (v := .ref r0_4) (C := RX9) (T := TX9) (N := 9) hx hb hts zn_X9_priceOf_X9 hown hK hP 0 rfl rfl 4 (of_decide_eq_true rfl) (hts (.fieldLink RX9 21 "ShortEnough$Task" "price" "[I") zw_X9_priceOf_212) (fun _ h9 => h9) rfl dX9_priceOf_43 ?_
      refine lv_iload hx hb dX9_priceOf_46 (lv_at hl 0 rfl) ?_
      obtain ⟨h_16, hfn⟩ := zg_s hfn
      refine va_iald hx hb hK hP 6 3 rfl rfl h_16 dX9_priceOf_48 ?_
      refine lv_goto (tgt := 53) hx hb dX9_priceOf_49 (of_decide_eq_true rfl) ?_
      refine lv_iadd hx hb dX9_priceOf_53 ?_
      refine lv_istore_n (lv' := [(2, .int (s_5.1 + (f6 o_7.toNatClampNeg))), (4, .int o_7), (3, .int s_5.2), (0, .ref h0), (1, .ref h1)]) hx hb dX9_priceOf_54 rfl hl (of_decide_eq_true rfl) rfl (fun ls hl => ?_)
      refine lv_iinc (v := (s_5.2 + 1)) (lv' := [(3, .int (s_5.2 + 1)), (2, .int (s_5.1 + (f6 o_7.toNatClampNeg))), (4, .int o_7), (0, .ref h0), (1, .ref h1)]) hx hb dX9_priceOf_55 hl (k := 2) rfl rfl (of_decide_eq_true rfl) rfl (fun ls hl => ?_)
      refine lv_goto (tgt := 13) hx hb dX9_priceOf_58 (of_decide_eq_true rfl) ?_
      exact ih_5 ((s_5.1 + (f6 o_7.toNatClampNeg)), (s_5.2 + 1)) H locs ls hfn hP hD hS (lv_sub hl [0, 1, 3, 4] rfl)
  exact lp_5 _ ((v0_5 * o_1), 0) H locs ls hfn hP hD hS (lv_sub hl [0, 1, 2, 3] rfl)
theorem zn_X1_keep_X1 : ∀ w ∈ wsX10, w ∈ wsX1_keep := fun _ h => List.mem_cons_of_mem _ (List.mem_append_left _ (List.mem_append_left _ (List.mem_append_left _ (List.mem_append_right _ h))))
theorem zw_X1_keep_214 : Cond.fieldLink RX1 68 "ShortEnough$FullSearch" "many" "I" ∈ wsX1_keep := List.mem_of_getElem? (i := 1) (by decide +kernel)
theorem zw_X1_keep_215 : Cond.fieldLink RX1 22 "ShortEnough$FullSearch" "prices" "[I" ∈ wsX1_keep := List.mem_of_getElem? (i := 2) (by decide +kernel)
theorem zw_X1_keep_216 : Cond.fieldLink RX1 86 "ShortEnough$FullSearch" "answers" "I" ∈ wsX1_keep := List.mem_of_getElem? (i := 3) (by decide +kernel)
theorem zn_X1_keep_X9 : ∀ w ∈ wsX90, w ∈ wsX1_keep := fun _ h => List.mem_cons_of_mem _ (List.mem_append_left _ (List.mem_append_left _ (List.mem_append_right _ h)))
theorem zw_X1_keep_218 : Cond.fieldLink RX1 48 "ShortEnough$Task" "numbers" "LShortEnough$Numbers;" ∈ wsX1_keep := List.mem_of_getElem? (i := 4) (by decide +kernel)
theorem zn_X1_keep_X4 : ∀ w ∈ wsX40, w ∈ wsX1_keep := fun _ h => List.mem_cons_of_mem _ (List.mem_append_left _ (List.mem_append_right _ h))
theorem zw_X1_keep_220 : Cond.fieldLink RX1 54 "ShortEnough$Numbers" "count" "I" ∈ wsX1_keep := List.mem_of_getElem? (i := 5) (by decide +kernel)
theorem zw_X1_keep_221 : Cond.fieldLink RX1 25 "ShortEnough$FullSearch" "errors" "[I" ∈ wsX1_keep := List.mem_of_getElem? (i := 6) (by decide +kernel)
theorem zw_X1_keep_222 : Cond.fieldLink RX1 12 "ShortEnough$FullSearch" "reckoning" "LShortEnough$Reckoning;" ∈ wsX1_keep := List.mem_of_getElem? (i := 7) (by decide +kernel)
theorem zn_X1_keep_X7 : ∀ w ∈ wsX70, w ∈ wsX1_keep := fun _ h => List.mem_cons_of_mem _ (List.mem_append_right _ h)
theorem zw_X1_keep_224 : Cond.fieldLink RX1 121 "ShortEnough$Reckoning" "errors" "[J" ∈ wsX1_keep := List.mem_of_getElem? (i := 8) (by decide +kernel)
theorem zw_X1_keep_225 : Cond.fieldLink RX1 28 "ShortEnough$FullSearch" "best" "I" ∈ wsX1_keep := List.mem_of_getElem? (i := 9) (by decide +kernel)
theorem zw_X1_keep_226 : Cond.fieldLink RX1 124 "ShortEnough$FullSearch" "bestPrice" "I" ∈ wsX1_keep := List.mem_of_getElem? (i := 10) (by decide +kernel)
set_option maxHeartbeats 4000000 in
set_option maxRecDepth 100000 in
theorem zf_X1_keep (l : Launch) (dC : Nat → ClassId) (dI : Nat → Nat → Nat) (h0 : Nat) (h1 : Nat) (p2 : Int32) (p3 : Int32) (r0_0 : Nat) (r0_1 : Nat) (v0_2 : Int32) (v0_3 : Int32) (r0_4 : Nat) (r0_5 : Nat) (v0_6 : Int32) (v0_7 : Int32) (v0_8 : Int32) (v0_9 : Int32) (v0_10 : Int32) (r0_11 : Nat) (r0_12 : Nat) (r0_13 : Nat) (k1 : Nat) (n1 : Nat) (f1 : Nat → Int32) (v2_0 : Int32) (r2_1 : Nat) (r2_2 : Nat) (r2_3 : Nat) (r2_4 : Nat) (v2_5 : Int32) (r2_6 : Nat) (r2_7 : Nat) (r2_8 : Nat) (v3_0 : Int32) (v3_1 : Int32) (r3_2 : Nat) (r3_3 : Nat) (r3_4 : Nat) (r3_5 : Nat) (r3_6 : Nat) (r3_7 : Nat) (r3_8 : Nat) (r3_9 : Nat) (k4 : Nat) (f4 : Nat → Int32) (k5 : Nat) (n5 : Nat) (f5 : Nat → Int32) (r6_0 : Nat) (v6_1 : Int32) (v6_2 : Int32) (k7 : Nat) (f7 : Nat → Int64) (o : Int32 × Int32 × Int32 × (Nat → Int32) × (Nat → Int32)) (hfn : fn_X1_keep p2 p3 v0_3 v0_6 v0_7 v0_8 n1 f1 v3_0 f4 n5 f5 f7 = some o) (sz : Nat) : zMv l yX1_keep wsX1_keep ({ frames := 2, cells := 0, slots := 0, locals := 42 }) (dC, dI) vwCl [.ref h0, .ref h1, .int p2, .int p3] [zV1 h0 r0_0 r0_1 v0_2 v0_3 r0_4 r0_5 v0_6 v0_7 v0_8 v0_9 v0_10 r0_11 r0_12 r0_13, zVi r0_4 k1 n1 f1, zV9 h1 v2_0 r2_1 r2_2 r2_3 r2_4 v2_5 r2_6 r2_7 r2_8, zV4 r2_6 v3_0 v3_1 r3_2 r3_3 r3_4 r3_5 r3_6 r3_7 r3_8 r3_9, zVi r3_5 k4 14 f4, zVi r0_5 k5 n5 f5, zV7 r0_0 r6_0 v6_1 v6_2, zVl r6_0 k7 14 f7] [(k1, .int), (k4, .int), (k5, .int), (k7, .long)] (fun _ => True) [zV1 h0 r0_0 r0_1 v0_2 v0_3 r0_4 r0_5 o.1 o.2.1 o.2.2.1 v0_9 v0_10 r0_11 r0_12 r0_13, zVi r0_4 k1 n1 o.2.2.2.1, zV9 h1 v2_0 r2_1 r2_2 r2_3 r2_4 v2_5 r2_6 r2_7 r2_8, zV4 r2_6 v3_0 v3_1 r3_2 r3_3 r3_4 r3_5 r3_6 r3_7 r3_8 r3_9, zVi r3_5 k4 14 f4, zVi r0_5 k5 n5 o.2.2.2.2, zV7 r0_0 r6_0 v6_1 v6_2, zVl r6_0 k7 14 f7] [(k1, .int), (k4, .int), (k5, .int), (k7, .long)] sz := by
  refine zgov (cc := cX1_keep) (maxL := 6) (ret := none) (C0 := RX1) (lv0 := [(0, .ref h0), (1, .ref h1), (2, .int p2), (3, .int p3)]) zpl_X1 rfl rfl rfl (Nat.le_of_ble_eq_true rfl) ?_
  intro p e s m below meth c A ls Q hx hb hr hts hown hlocks hml hP hK hD hA hS hl hQ
  unfold fn_X1_keep at hfn
  refine lv_aload_n hx hb dX1_keep_0 rfl (lv_at hl 0 rfl) ?_
  refine va_get (D := (dC, dI)) (ci := 1) (v := .int v0_6) (C := RX1) (T := TX1) (N := 14) hx hb hts zn_X1_keep_X1 hown hK hP 0 rfl rfl 6 (of_decide_eq_true rfl) (hts (.fieldLink RX1 68 "ShortEnough$FullSearch" "many" "I") zw_X1_keep_214) (fun _ h9 => h9) rfl dX1_keep_1 ?_
  refine lv_aload_n hx hb dX1_keep_4 rfl (lv_at hl 0 rfl) ?_
  refine va_get (D := (dC, dI)) (ci := 1) (v := .ref r0_4) (C := RX1) (T := TX1) (N := 14) hx hb hts zn_X1_keep_X1 hown hK hP 0 rfl rfl 4 (of_decide_eq_true rfl) (hts (.fieldLink RX1 22 "ShortEnough$FullSearch" "prices" "[I") zw_X1_keep_215) (fun _ h9 => h9) rfl dX1_keep_5 ?_
  refine va_alen (v := (Int32.ofNat n1)) hx hb hK hP 1 0 rfl rfl rfl dX1_keep_8 ?_
  refine lv_icmp_lt (tgt := 13) hx hb dX1_keep_9 (of_decide_eq_true rfl) (fun c_1 => ?_) (fun c_1 => ?_)
  · have hfn := (if_pos c_1).symm.trans hfn
    refine lv_aload_n hx hb dX1_keep_13 rfl (lv_at hl 0 rfl) ?_
    refine va_get (D := (dC, dI)) (ci := 1) (v := .ref r0_4) (C := RX1) (T := TX1) (N := 14) hx hb hts zn_X1_keep_X1 hown hK hP 0 rfl rfl 4 (of_decide_eq_true rfl) (hts (.fieldLink RX1 22 "ShortEnough$FullSearch" "prices" "[I") zw_X1_keep_215) (fun _ h9 => h9) rfl dX1_keep_14 ?_
    refine lv_aload_n hx hb dX1_keep_17 rfl (lv_at hl 0 rfl) ?_
    refine va_get (D := (dC, dI)) (ci := 1) (v := .int v0_6) (C := RX1) (T := TX1) (N := 14) hx hb hts zn_X1_keep_X1 hown hK hP 0 rfl rfl 6 (of_decide_eq_true rfl) (hts (.fieldLink RX1 68 "ShortEnough$FullSearch" "many" "I") zw_X1_keep_214) (fun _ h9 => h9) rfl dX1_keep_18 ?_
    refine lv_iload_n hx hb dX1_keep_21 rfl (lv_at hl 3 rfl) ?_
    obtain ⟨h_2, hfn⟩ := zg_s hfn
    refine va_iast hx hb hK hP hD hS 1 0 rfl rfl h_2 dX1_keep_22 (fun H locs hP hD hS => ?_)
    have hP : va_P (dC, dI) vwCl [zV1 h0 r0_0 r0_1 v0_2 v0_3 r0_4 r0_5 v0_6 v0_7 v0_8 v0_9 v0_10 r0_11 r0_12 r0_13, zVi r0_4 k1 n1 (upd f1 v0_6.toNatClampNeg p3), zV9 h1 v2_0 r2_1 r2_2 r2_3 r2_4 v2_5 r2_6 r2_7 r2_8, zV4 r2_6 v3_0 v3_1 r3_2 r3_3 r3_4 r3_5 r3_6 r3_7 r3_8 r3_9, zVi r3_5 k4 14 f4, zVi r0_5 k5 n5 f5, zV7 r0_0 r6_0 v6_1 v6_2, zVl r6_0 k7 14 f7] H := hP
    have hD := zDW hD hP rfl
    refine lv_aload_n hx hb dX1_keep_23 rfl (lv_at hl 0 rfl) ?_
    refine va_get (D := (dC, dI)) (ci := 1) (v := .int v0_6) (C := RX1) (T := TX1) (N := 14) hx hb hts zn_X1_keep_X1 hown hK hP 0 rfl rfl 6 (of_decide_eq_true rfl) (hts (.fieldLink RX1 68 "ShortEnough$FullSearch" "many" "I") zw_X1_keep_214) (fun _ h9 => h9) rfl dX1_keep_24 ?_
    refine lv_aload_n hx hb dX1_keep_27 rfl (lv_at hl 0 rfl) ?_
    refine va_get (D := (dC, dI)) (ci := 1) (v := .int v0_3) (C := RX1) (T := TX1) (N := 14) hx hb hts zn_X1_keep_X1 hown hK hP 0 rfl rfl 3 (of_decide_eq_true rfl) (hts (.fieldLink RX1 86 "ShortEnough$FullSearch" "answers" "I") zw_X1_keep_216) (fun _ h9 => h9) rfl dX1_keep_28 ?_
    refine lv_imul hx hb dX1_keep_31 ?_
    refine lv_istore (lv' := [(4, .int (v0_6 * v0_3)), (0, .ref h0), (1, .ref h1), (2, .int p2), (3, .int p3)]) hx hb dX1_keep_32 hl (of_decide_eq_true rfl) rfl (fun ls hl => ?_)
    refine lv_iconst (v := 0) hx hb dX1_keep_34 zci_0 ?_
    refine lv_istore (lv' := [(5, .int 0), (4, .int (v0_6 * v0_3)), (0, .ref h0), (1, .ref h1), (2, .int p2), (3, .int p3)]) hx hb dX1_keep_35 hl (of_decide_eq_true rfl) rfl (fun ls hl => ?_)
    obtain ⟨bd_3, ebd_3, hfn⟩ := zl_g hfn
    have lp_3 : ∀ (n : Nat) (s_3 : Int32 × Int32 × (Nat → Int32)) (H : Heap) (locs : List Loc) (ls : Array Slot), zl bd_3 n s_3 = some o → va_P (dC, dI) vwCl [zV1 h0 r0_0 r0_1 v0_2 v0_3 r0_4 r0_5 v0_6 v0_7 v0_8 v0_9 v0_10 r0_11 r0_12 r0_13, zVi r0_4 k1 n1 (upd f1 v0_6.toNatClampNeg p3), zV9 h1 v2_0 r2_1 r2_2 r2_3 r2_4 v2_5 r2_6 r2_7 r2_8, zV4 r2_6 v3_0 v3_1 r3_2 r3_3 r3_4 r3_5 r3_6 r3_7 r3_8 r3_9, zVi r3_5 k4 14 f4, zVi r0_5 k5 n5 s_3.2.2, zV7 r0_0 r6_0 v6_1 v6_2, zVl r6_0 k7 14 f7] H → va_D A [zV1 h0 r0_0 r0_1 v0_2 v0_3 r0_4 r0_5 v0_6 v0_7 v0_8 v0_9 v0_10 r0_11 r0_12 r0_13, zVi r0_4 k1 n1 (upd f1 v0_6.toNatClampNeg p3), zV9 h1 v2_0 r2_1 r2_2 r2_3 r2_4 v2_5 r2_6 r2_7 r2_8, zV4 r2_6 v3_0 v3_1 r3_2 r3_3 r3_4 r3_5 r3_6 r3_7 r3_8 r3_9, zVi r3_5 k4 14 f4, zVi r0_5 k5 n5 s_3.2.2, zV7 r0_0 r6_0 v6_1 v6_2, zVl r6_0 k7 14 f7] → va_S A s.heap H locs → lv_has ls 6 [(5, .int s_3.2.1), (4, .int s_3.1), (0, .ref h0), (1, .ref h1), (2, .int p2), (3, .int p3)] → W p l e (headSpec wsX1_keep ({ frames := 2, cells := 0, slots := 0, locals := 42 })).room s m ([.ref h0, .ref h1, .int p2, .int p3] : List Value).toArray below meth c H locs 0 0 Q (F0 m 37 ls []) := by
      intro n
      induction n with
      | zero => exact fun _ _ _ _ hfn => (zl_0 hfn).elim
      | succ n ih_3 =>
        intro s_3 H locs ls hfn hP hD hS hl
        have hfn := zl_s ebd_3 hfn
        refine lv_iload hx hb dX1_keep_37 (lv_at hl 0 rfl) ?_
        refine lv_aload_n hx hb dX1_keep_39 rfl (lv_at hl 3 rfl) ?_
        refine va_get (D := (dC, dI)) (ci := 9) (v := .ref r2_6) (C := RX9) (T := TX9) (N := 9) hx hb hts zn_X1_keep_X9 hown hK hP 2 rfl rfl 6 (of_decide_eq_true rfl) (hts (.fieldLink RX1 48 "ShortEnough$Task" "numbers" "LShortEnough$Numbers;") zw_X1_keep_218) (fun _ h9 => h9) rfl dX1_keep_40 ?_
        refine va_get (D := (dC, dI)) (ci := 4) (v := .int v3_0) (C := RX4) (T := TX4) (N := 10) hx hb hts zn_X1_keep_X4 hown hK hP 3 rfl rfl 0 (of_decide_eq_true rfl) (hts (.fieldLink RX1 54 "ShortEnough$Numbers" "count" "I") zw_X1_keep_220) (fun _ h9 => h9) rfl dX1_keep_43 ?_
        refine lv_icmp_ge (tgt := 95) hx hb dX1_keep_46 (of_decide_eq_true rfl) (fun c_4 => ?_) (fun c_4 => ?_)
        · have hfn := (if_pos c_4).symm.trans hfn
          refine lv_aload_n hx hb dX1_keep_95 rfl (lv_at hl 2 rfl) ?_
          refine va_get (D := (dC, dI)) (ci := 1) (v := .int v0_7) (C := RX1) (T := TX1) (N := 14) hx hb hts zn_X1_keep_X1 hown hK hP 0 rfl rfl 7 (of_decide_eq_true rfl) (hts (.fieldLink RX1 28 "ShortEnough$FullSearch" "best" "I") zw_X1_keep_225) (fun _ h9 => h9) rfl dX1_keep_96 ?_
          refine lv_iconst (v := (-1)) hx hb dX1_keep_99 zci_m1 ?_
          obtain ⟨j_5, ej_5, hfn⟩ := zj_g hfn
          have jp_5 : ∀ (s_5 : Unit) (H : Heap) (locs : List Loc) (ls : Array Slot), j_5 s_5 = some o → va_P (dC, dI) vwCl [zV1 h0 r0_0 r0_1 v0_2 v0_3 r0_4 r0_5 v0_6 v0_7 v0_8 v0_9 v0_10 r0_11 r0_12 r0_13, zVi r0_4 k1 n1 (upd f1 v0_6.toNatClampNeg p3), zV9 h1 v2_0 r2_1 r2_2 r2_3 r2_4 v2_5 r2_6 r2_7 r2_8, zV4 r2_6 v3_0 v3_1 r3_2 r3_3 r3_4 r3_5 r3_6 r3_7 r3_8 r3_9, zVi r3_5 k4 14 f4, zVi r0_5 k5 n5 s_3.2.2, zV7 r0_0 r6_0 v6_1 v6_2, zVl r6_0 k7 14 f7] H → va_D A [zV1 h0 r0_0 r0_1 v0_2 v0_3 r0_4 r0_5 v0_6 v0_7 v0_8 v0_9 v0_10 r0_11 r0_12 r0_13, zVi r0_4 k1 n1 (upd f1 v0_6.toNatClampNeg p3), zV9 h1 v2_0 r2_1 r2_2 r2_3 r2_4 v2_5 r2_6 r2_7 r2_8, zV4 r2_6 v3_0 v3_1 r3_2 r3_3 r3_4 r3_5 r3_6 r3_7 r3_8 r3_9, zVi r3_5 k4 14 f4, zVi r0_5 k5 n5 s_3.2.2, zV7 r0_0 r6_0 v6_1 v6_2, zVl r6_0 k7 14 f7] → va_S A s.heap H locs → lv_has ls 6 [(0, .ref h0), (2, .int p2), (3, .int p3)] → W p l e (headSpec wsX1_keep ({ frames := 2, cells := 0, slots := 0, locals := 42 })).room s m ([.ref h0, .ref h1, .int p2, .int p3] : List Value).toArray below meth c H locs 0 0 Q (F0 m 111 ls []) := by
            intro s_5 H locs ls hfn hP hD hS hl
            have hfn := zj_s ej_5 hfn
            refine lv_aload_n hx hb dX1_keep_111 rfl (lv_at hl 0 rfl) ?_
            refine lv_iload_n hx hb dX1_keep_112 rfl (lv_at hl 1 rfl) ?_
            refine va_put (D := (dC, dI)) (ci := 1) (v := .int p2) (ty := .int) (C := RX1) (T := TX1) (N := 14) hx hb hts zn_X1_keep_X1 tyX1 tyX1_ok nmX1 hown hK hP hD hS 0 rfl rfl 7 (of_decide_eq_true rfl) (hts (.fieldLink RX1 28 "ShortEnough$FullSearch" "best" "I") zw_X1_keep_225) (fun _ h9 => h9) rfl (tyX1_ok 7 (of_decide_eq_true rfl)) rfl rfl (Nat.le_of_ble_eq_true rfl) dX1_keep_113 (fun H locs hP hD hS => ?_)
            have hP : va_P (dC, dI) vwCl [zV1 h0 r0_0 r0_1 v0_2 v0_3 r0_4 r0_5 v0_6 p2 v0_8 v0_9 v0_10 r0_11 r0_12 r0_13, zVi r0_4 k1 n1 (upd f1 v0_6.toNatClampNeg p3), zV9 h1 v2_0 r2_1 r2_2 r2_3 r2_4 v2_5 r2_6 r2_7 r2_8, zV4 r2_6 v3_0 v3_1 r3_2 r3_3 r3_4 r3_5 r3_6 r3_7 r3_8 r3_9, zVi r3_5 k4 14 f4, zVi r0_5 k5 n5 s_3.2.2, zV7 r0_0 r6_0 v6_1 v6_2, zVl r6_0 k7 14 f7] H := hP
            have hD := zDW hD hP rfl
            refine lv_aload_n hx hb dX1_keep_116 rfl (lv_at hl 0 rfl) ?_
            refine lv_iload_n hx hb dX1_keep_117 rfl (lv_at hl 2 rfl) ?_
            refine va_put (D := (dC, dI)) (ci := 1) (v := .int p3) (ty := .int) (C := RX1) (T := TX1) (N := 14) hx hb hts zn_X1_keep_X1 tyX1 tyX1_ok nmX1 hown hK hP hD hS 0 rfl rfl 8 (of_decide_eq_true rfl) (hts (.fieldLink RX1 124 "ShortEnough$FullSearch" "bestPrice" "I") zw_X1_keep_226) (fun _ h9 => h9) rfl (tyX1_ok 8 (of_decide_eq_true rfl)) rfl rfl (Nat.le_of_ble_eq_true rfl) dX1_keep_118 (fun H locs hP hD hS => ?_)
            have hP : va_P (dC, dI) vwCl [zV1 h0 r0_0 r0_1 v0_2 v0_3 r0_4 r0_5 v0_6 p2 p3 v0_9 v0_10 r0_11 r0_12 r0_13, zVi r0_4 k1 n1 (upd f1 v0_6.toNatClampNeg p3), zV9 h1 v2_0 r2_1 r2_2 r2_3 r2_4 v2_5 r2_6 r2_7 r2_8, zV4 r2_6 v3_0 v3_1 r3_2 r3_3 r3_4 r3_5 r3_6 r3_7 r3_8 r3_9, zVi r3_5 k4 14 f4, zVi r0_5 k5 n5 s_3.2.2, zV7 r0_0 r6_0 v6_1 v6_2, zVl r6_0 k7 14 f7] H := hP
            have hD := zDW hD hP rfl
            refine lv_aload_n hx hb dX1_keep_121 rfl (lv_at hl 0 rfl) ?_
            refine lv_dup hx hb dX1_keep_122 rfl ?_
            refine va_get (D := (dC, dI)) (ci := 1) (v := .int v0_6) (C := RX1) (T := TX1) (N := 14) hx hb hts zn_X1_keep_X1 hown hK hP 0 rfl rfl 6 (of_decide_eq_true rfl) (hts (.fieldLink RX1 68 "ShortEnough$FullSearch" "many" "I") zw_X1_keep_214) (fun _ h9 => h9) rfl dX1_keep_123 ?_
            refine lv_iconst (v := 1) hx hb dX1_keep_126 zci_1 ?_
            refine lv_iadd hx hb dX1_keep_127 ?_
            refine va_put (D := (dC, dI)) (ci := 1) (v := .int (v0_6 + 1)) (ty := .int) (C := RX1) (T := TX1) (N := 14) hx hb hts zn_X1_keep_X1 tyX1 tyX1_ok nmX1 hown hK hP hD hS 0 rfl rfl 6 (of_decide_eq_true rfl) (hts (.fieldLink RX1 68 "ShortEnough$FullSearch" "many" "I") zw_X1_keep_214) (fun _ h9 => h9) rfl (tyX1_ok 6 (of_decide_eq_true rfl)) rfl rfl (Nat.le_of_ble_eq_true rfl) dX1_keep_128 (fun H locs hP hD hS => ?_)
            have hP : va_P (dC, dI) vwCl [zV1 h0 r0_0 r0_1 v0_2 v0_3 r0_4 r0_5 (v0_6 + 1) p2 p3 v0_9 v0_10 r0_11 r0_12 r0_13, zVi r0_4 k1 n1 (upd f1 v0_6.toNatClampNeg p3), zV9 h1 v2_0 r2_1 r2_2 r2_3 r2_4 v2_5 r2_6 r2_7 r2_8, zV4 r2_6 v3_0 v3_1 r3_2 r3_3 r3_4 r3_5 r3_6 r3_7 r3_8 r3_9, zVi r3_5 k4 14 f4, zVi r0_5 k5 n5 s_3.2.2, zV7 r0_0 r6_0 v6_1 v6_2, zVl r6_0 k7 14 f7] H := hP
            have hD := zDW hD hP rfl
            have ho := Option.some.inj hfn
            subst ho
            exact zrv hx hb hr hK hP hD hS hQ trivial hlocks dX1_keep_131
          refine lv_icmp_eq (tgt := 111) hx hb dX1_keep_100 (of_decide_eq_true rfl) (fun c_6 => ?_) (fun c_6 => ?_)
          · have hfn := (if_pos c_6).symm.trans hfn
            exact jp_5 () H locs ls hfn hP hD hS (lv_sub hl [2, 4, 5] rfl)
          have hfn := (if_neg c_6).symm.trans hfn
          refine lv_iload_n hx hb dX1_keep_103 rfl (lv_at hl 5 rfl) ?_
          refine lv_aload_n hx hb dX1_keep_104 rfl (lv_at hl 2 rfl) ?_
          refine va_get (D := (dC, dI)) (ci := 1) (v := .int v0_8) (C := RX1) (T := TX1) (N := 14) hx hb hts zn_X1_keep_X1 hown hK hP 0 rfl rfl 8 (of_decide_eq_true rfl) (hts (.fieldLink RX1 124 "ShortEnough$FullSearch" "bestPrice" "I") zw_X1_keep_226) (fun _ h9 => h9) rfl dX1_keep_105 ?_
          refine lv_icmp_ge (tgt := 121) hx hb dX1_keep_108 (of_decide_eq_true rfl) (fun c_7 => ?_) (fun c_7 => ?_)
          · have hfn := (if_pos c_7).symm.trans hfn
            refine lv_aload_n hx hb dX1_keep_121 rfl (lv_at hl 2 rfl) ?_
            refine lv_dup hx hb dX1_keep_122 rfl ?_
            refine va_get (D := (dC, dI)) (ci := 1) (v := .int v0_6) (C := RX1) (T := TX1) (N := 14) hx hb hts zn_X1_keep_X1 hown hK hP 0 rfl rfl 6 (of_decide_eq_true rfl) (hts (.fieldLink RX1 68 "ShortEnough$FullSearch" "many" "I") zw_X1_keep_214) (fun _ h9 => h9) rfl dX1_keep_123 ?_
            refine lv_iconst (v := 1) hx hb dX1_keep_126 zci_1 ?_
            refine lv_iadd hx hb dX1_keep_127 ?_
            refine va_put (D := (dC, dI)) (ci := 1) (v := .int (v0_6 + 1)) (ty := .int) (C := RX1) (T := TX1) (N := 14) hx hb hts zn_X1_keep_X1 tyX1 tyX1_ok nmX1 hown hK hP hD hS 0 rfl rfl 6 (of_decide_eq_true rfl) (hts (.fieldLink RX1 68 "ShortEnough$FullSearch" "many" "I") zw_X1_keep_214) (fun _ h9 => h9) rfl (tyX1_ok 6 (of_decide_eq_true rfl)) rfl rfl (Nat.le_of_ble_eq_true rfl) dX1_keep_128 (fun H locs hP hD hS => ?_)
            have hP : va_P (dC, dI) vwCl [zV1 h0 r0_0 r0_1 v0_2 v0_3 r0_4 r0_5 (v0_6 + 1) v0_7 v0_8 v0_9 v0_10 r0_11 r0_12 r0_13, zVi r0_4 k1 n1 (upd f1 v0_6.toNatClampNeg p3), zV9 h1 v2_0 r2_1 r2_2 r2_3 r2_4 v2_5 r2_6 r2_7 r2_8, zV4 r2_6 v3_0 v3_1 r3_2 r3_3 r3_4 r3_5 r3_6 r3_7 r3_8 r3_9, zVi r3_5 k4 14 f4, zVi r0_5 k5 n5 s_3.2.2, zV7 r0_0 r6_0 v6_1 v6_2, zVl r6_0 k7 14 f7] H := hP
            have hD := zDW hD hP rfl
            have ho := Option.some.inj hfn
            subst ho
            exact zrv hx hb hr hK hP hD hS hQ trivial hlocks dX1_keep_131
          have hfn := (if_neg c_7).symm.trans hfn
          exact jp_5 () H locs ls hfn hP hD hS (lv_sub hl [2, 4, 5] rfl)
        have hfn := (if_neg c_4).symm.trans hfn
        refine lv_aload_n hx hb dX1_keep_49 rfl (lv_at hl 3 rfl) ?_
        refine lv_iload hx hb dX1_keep_50 (lv_at hl 0 rfl) ?_
        obtain ⟨o_8, hqo_8, hfn⟩ := zb_s hfn
        refine zcVb (ci := 9) (rest := []) (pc' := 55) (ws' := [zV1 h0 r0_0 r0_1 v0_2 v0_3 r0_4 r0_5 v0_6 v0_7 v0_8 v0_9 v0_10 r0_11 r0_12 r0_13, zVi r0_4 k1 n1 (upd f1 v0_6.toNatClampNeg p3), zV9 h1 v2_0 r2_1 r2_2 r2_3 r2_4 v2_5 r2_6 r2_7 r2_8, zV4 r2_6 v3_0 v3_1 r3_2 r3_3 r3_4 r3_5 r3_6 r3_7 r3_8 r3_9, zVi r3_5 k4 14 f4, zVi r0_5 k5 n5 s_3.2.2, zV7 r0_0 r6_0 v6_1 v6_2, zVl r6_0 k7 14 f7]) hP hK hD hS hA ⟨hx, hb, hml, hown, hts⟩ (zf_X9_isAnswer l dC dI h1 s_3.2.1 v2_0 r2_1 r2_2 r2_3 r2_4 v2_5 r2_6 r2_7 r2_8 v3_0 v3_1 r3_2 r3_3 r3_4 r3_5 r3_6 r3_7 r3_8 r3_9 k4 f4 o_8 hqo_8 H.size) (cwV 1 hts gX1_keep_X9_isAnswer rfl rfl rfl zhd_X9_isAnswer ⟨Nat.le_of_ble_eq_true rfl, Nat.le_of_ble_eq_true rfl⟩) [2, 3, 4] rfl (of_decide_eq_true rfl) [1] rfl rfl rfl rfl hl.1 rfl (Nat.le_of_ble_eq_true rfl) dX1_keep_52 ⟨Nat.le_of_ble_eq_true rfl, Nat.le_of_ble_eq_true rfl⟩ [none, none, some 0, some 1, some 2] (of_decide_eq_true rfl) (of_decide_eq_true rfl) rfl rfl rfl (fun H locs hw_11n hP hD hS => ?_)
        refine lv_if_eq (tgt := 89) hx hb dX1_keep_55 (of_decide_eq_true rfl) (fun c_12 => ?_) (fun c_12 => ?_)
        · have hfn := (if_pos c_12).symm.trans hfn
          refine lv_iinc (v := (s_3.2.1 + 1)) (lv' := [(5, .int (s_3.2.1 + 1)), (4, .int s_3.1), (0, .ref h0), (1, .ref h1), (2, .int p2), (3, .int p3)]) hx hb dX1_keep_89 hl (k := 0) rfl rfl (of_decide_eq_true rfl) rfl (fun ls hl => ?_)
          refine lv_goto (tgt := 37) hx hb dX1_keep_92 (of_decide_eq_true rfl) ?_
          exact ih_3 (s_3.1, (s_3.2.1 + 1), s_3.2.2) H locs ls hfn hP hD hS (lv_sub hl [0, 1, 2, 3, 4, 5] rfl)
        have hfn := (if_neg c_12).symm.trans hfn
        refine lv_iload hx hb dX1_keep_58 (lv_at hl 1 rfl) ?_
        refine lv_aload_n hx hb dX1_keep_60 rfl (lv_at hl 2 rfl) ?_
        refine va_get (D := (dC, dI)) (ci := 1) (v := .ref r0_5) (C := RX1) (T := TX1) (N := 14) hx hb hts zn_X1_keep_X1 hown hK hP 0 rfl rfl 5 (of_decide_eq_true rfl) (hts (.fieldLink RX1 25 "ShortEnough$FullSearch" "errors" "[I") zw_X1_keep_221) (fun _ h9 => h9) rfl dX1_keep_61 ?_
        refine va_alen (v := (Int32.ofNat n5)) hx hb hK hP 5 2 rfl rfl rfl dX1_keep_64 ?_
        refine lv_icmp_ge (tgt := 89) hx hb dX1_keep_65 (of_decide_eq_true rfl) (fun c_13 => ?_) (fun c_13 => ?_)
        · have hfn := (if_pos c_13).symm.trans hfn
          refine lv_iinc (v := (s_3.2.1 + 1)) (lv' := [(5, .int (s_3.2.1 + 1)), (4, .int s_3.1), (0, .ref h0), (1, .ref h1), (2, .int p2), (3, .int p3)]) hx hb dX1_keep_89 hl (k := 0) rfl rfl (of_decide_eq_true rfl) rfl (fun ls hl => ?_)
          refine lv_goto (tgt := 37) hx hb dX1_keep_92 (of_decide_eq_true rfl) ?_
          exact ih_3 (s_3.1, (s_3.2.1 + 1), s_3.2.2) H locs ls hfn hP hD hS (lv_sub hl [0, 1, 2, 3, 4, 5] rfl)
        have hfn := (if_neg c_13).symm.trans hfn
        refine lv_aload_n hx hb dX1_keep_68 rfl (lv_at hl 2 rfl) ?_
        refine va_get (D := (dC, dI)) (ci := 1) (v := .ref r0_5) (C := RX1) (T := TX1) (N := 14) hx hb hts zn_X1_keep_X1 hown hK hP 0 rfl rfl 5 (of_decide_eq_true rfl) (hts (.fieldLink RX1 25 "ShortEnough$FullSearch" "errors" "[I") zw_X1_keep_221) (fun _ h9 => h9) rfl dX1_keep_69 ?_
        refine lv_iload hx hb dX1_keep_72 (lv_at hl 1 rfl) ?_
        refine lv_aload_n hx hb dX1_keep_74 rfl (lv_at hl 2 rfl) ?_
        refine va_get (D := (dC, dI)) (ci := 1) (v := .ref r0_0) (C := RX1) (T := TX1) (N := 14) hx hb hts zn_X1_keep_X1 hown hK hP 0 rfl rfl 0 (of_decide_eq_true rfl) (hts (.fieldLink RX1 12 "ShortEnough$FullSearch" "reckoning" "LShortEnough$Reckoning;") zw_X1_keep_222) (fun _ h9 => h9) rfl dX1_keep_75 ?_
        refine va_get (D := (dC, dI)) (ci := 7) (v := .ref r6_0) (C := RX7) (T := TX7) (N := 3) hx hb hts zn_X1_keep_X7 hown hK hP 6 rfl rfl 0 (of_decide_eq_true rfl) (hts (.fieldLink RX1 121 "ShortEnough$Reckoning" "errors" "[J") zw_X1_keep_224) (fun _ h9 => h9) rfl dX1_keep_78 ?_
        refine lv_iload hx hb dX1_keep_81 (lv_at hl 0 rfl) ?_
        obtain ⟨h_14, hfn⟩ := zg_s hfn
        refine va_lald hx hb hK hP 7 3 rfl rfl h_14 dX1_keep_83 ?_
        refine lv_l2i (v := (f7 s_3.2.1.toNatClampNeg).toInt32) hx hb dX1_keep_84 rfl ?_
        obtain ⟨h_15, hfn⟩ := zg_s hfn
        refine va_iast hx hb hK hP hD hS 5 2 rfl rfl h_15 dX1_keep_85 (fun H locs hP hD hS => ?_)
        obtain ⟨g_16, eg_16⟩ : ∃ g : Nat → Int32, g = (upd s_3.2.2 s_3.1.toNatClampNeg ((f7 s_3.2.1.toNatClampNeg).toInt32)) := ⟨_, rfl⟩
        have hfn := zn_s hfn eg_16
        have hP : va_P (dC, dI) vwCl [zV1 h0 r0_0 r0_1 v0_2 v0_3 r0_4 r0_5 v0_6 v0_7 v0_8 v0_9 v0_10 r0_11 r0_12 r0_13, zVi r0_4 k1 n1 (upd f1 v0_6.toNatClampNeg p3), zV9 h1 v2_0 r2_1 r2_2 r2_3 r2_4 v2_5 r2_6 r2_7 r2_8, zV4 r2_6 v3_0 v3_1 r3_2 r3_3 r3_4 r3_5 r3_6 r3_7 r3_8 r3_9, zVi r3_5 k4 14 f4, zVi r0_5 k5 n5 g_16, zV7 r0_0 r6_0 v6_1 v6_2, zVl r6_0 k7 14 f7] H := by rw [eg_16]; exact hP
        have hD : va_D A [zV1 h0 r0_0 r0_1 v0_2 v0_3 r0_4 r0_5 v0_6 v0_7 v0_8 v0_9 v0_10 r0_11 r0_12 r0_13, zVi r0_4 k1 n1 (upd f1 v0_6.toNatClampNeg p3), zV9 h1 v2_0 r2_1 r2_2 r2_3 r2_4 v2_5 r2_6 r2_7 r2_8, zV4 r2_6 v3_0 v3_1 r3_2 r3_3 r3_4 r3_5 r3_6 r3_7 r3_8 r3_9, zVi r3_5 k4 14 f4, zVi r0_5 k5 n5 g_16, zV7 r0_0 r6_0 v6_1 v6_2, zVl r6_0 k7 14 f7] := by rw [eg_16]; exact hD
        refine lv_iinc (v := (s_3.1 + 1)) (lv' := [(4, .int (s_3.1 + 1)), (5, .int s_3.2.1), (0, .ref h0), (1, .ref h1), (2, .int p2), (3, .int p3)]) hx hb dX1_keep_86 hl (k := 1) rfl rfl (of_decide_eq_true rfl) rfl (fun ls hl => ?_)
        refine lv_iinc (v := (s_3.2.1 + 1)) (lv' := [(5, .int (s_3.2.1 + 1)), (4, .int (s_3.1 + 1)), (0, .ref h0), (1, .ref h1), (2, .int p2), (3, .int p3)]) hx hb dX1_keep_89 hl (k := 1) rfl rfl (of_decide_eq_true rfl) rfl (fun ls hl => ?_)
        refine lv_goto (tgt := 37) hx hb dX1_keep_92 (of_decide_eq_true rfl) ?_
        exact ih_3 ((s_3.1 + 1), (s_3.2.1 + 1), g_16) H locs ls hfn hP hD hS (lv_sub hl [0, 1, 2, 3, 4, 5] rfl)
    exact lp_3 _ ((v0_6 * v0_3), 0, f5) H locs ls hfn hP hD hS (lv_sub hl [0, 1, 2, 3, 4, 5] rfl)
  have hfn := (if_neg c_1).symm.trans hfn
  have ho := Option.some.inj hfn
  subst ho
  exact zrv hx hb hr hK hP hD hS hQ trivial hlocks dX1_keep_12
theorem zn_X1_searchAll_X9 : ∀ w ∈ wsX90, w ∈ wsX1_searchAll := fun _ h => List.mem_cons_of_mem _ (List.mem_append_left _ (List.mem_append_left _ (List.mem_append_left _ (List.mem_append_left _ (List.mem_append_left _ (List.mem_append_right _ h))))))
theorem zw_X1_searchAll_165 : Cond.fieldLink RX1 59 "ShortEnough$Task" "groups" "LShortEnough$Groups;" ∈ wsX1_searchAll := List.mem_of_getElem? (i := 1) (by decide +kernel)
theorem zn_X1_searchAll_X2 : ∀ w ∈ wsX20, w ∈ wsX1_searchAll := fun _ h => List.mem_cons_of_mem _ (List.mem_append_left _ (List.mem_append_left _ (List.mem_append_left _ (List.mem_append_left _ (List.mem_append_right _ h)))))
theorem zw_X1_searchAll_167 : Cond.fieldLink RX1 63 "ShortEnough$Groups" "free" "I" ∈ wsX1_searchAll := List.mem_of_getElem? (i := 2) (by decide +kernel)
theorem zw_X1_searchAll_168 : Cond.fieldLink RX1 79 "ShortEnough$Task" "formats" "I" ∈ wsX1_searchAll := List.mem_of_getElem? (i := 3) (by decide +kernel)
theorem zw_X1_searchAll_169 : Cond.fieldLink RX1 48 "ShortEnough$Task" "numbers" "LShortEnough$Numbers;" ∈ wsX1_searchAll := List.mem_of_getElem? (i := 4) (by decide +kernel)
theorem zn_X1_searchAll_X4 : ∀ w ∈ wsX40, w ∈ wsX1_searchAll := fun _ h => List.mem_cons_of_mem _ (List.mem_append_left _ (List.mem_append_left _ (List.mem_append_left _ (List.mem_append_right _ h))))
theorem zw_X1_searchAll_171 : Cond.fieldLink RX1 54 "ShortEnough$Numbers" "count" "I" ∈ wsX1_searchAll := List.mem_of_getElem? (i := 5) (by decide +kernel)
theorem zn_X1_searchAll_X1 : ∀ w ∈ wsX10, w ∈ wsX1_searchAll := fun _ h => List.mem_cons_of_mem _ (List.mem_append_left _ (List.mem_append_left _ (List.mem_append_right _ h)))
theorem zw_X1_searchAll_176 : Cond.fieldLink RX1 86 "ShortEnough$FullSearch" "answers" "I" ∈ wsX1_searchAll := List.mem_of_getElem? (i := 6) (by decide +kernel)
theorem zw_X1_searchAll_185 : Cond.fieldLink RX1 18 "ShortEnough$FullSearch" "choice" "[I" ∈ wsX1_searchAll := List.mem_of_getElem? (i := 7) (by decide +kernel)
theorem zw_X1_searchAll_192 : Cond.fieldLink RX1 12 "ShortEnough$FullSearch" "reckoning" "LShortEnough$Reckoning;" ∈ wsX1_searchAll := List.mem_of_getElem? (i := 8) (by decide +kernel)
theorem zw_X1_searchAll_193 : Cond.fieldLink RX1 97 "ShortEnough$Task" "ranges" "LShortEnough$Ranges;" ∈ wsX1_searchAll := List.mem_of_getElem? (i := 9) (by decide +kernel)
set_option maxHeartbeats 4000000 in
set_option maxRecDepth 100000 in
theorem zf_X1_searchAll (l : Launch) (dC : Nat → ClassId) (dI : Nat → Nat → Nat) (h0 : Nat) (h1 : Nat) (r0_0 : Nat) (r0_1 : Nat) (v0_2 : Int32) (v0_3 : Int32) (r0_4 : Nat) (r0_5 : Nat) (v0_6 : Int32) (v0_7 : Int32) (v0_8 : Int32) (v0_9 : Int32) (v0_10 : Int32) (r0_11 : Nat) (r0_12 : Nat) (r0_13 : Nat) (v1_0 : Int32) (r1_1 : Nat) (r1_2 : Nat) (r1_3 : Nat) (r1_4 : Nat) (v1_5 : Int32) (r1_6 : Nat) (r1_7 : Nat) (r1_8 : Nat) (v2_0 : Int32) (v2_1 : Int32) (v2_2 : Int32) (r2_3 : Nat) (r2_4 : Nat) (r2_5 : Nat) (v3_0 : Int32) (v3_1 : Int32) (r3_2 : Nat) (r3_3 : Nat) (r3_4 : Nat) (r3_5 : Nat) (r3_6 : Nat) (r3_7 : Nat) (r3_8 : Nat) (r3_9 : Nat) (k4 : Nat) (f4 : Nat → Int32) (k5 : Nat) (n5 : Nat) (f5 : Nat → Int32) (k6 : Nat) (n6 : Nat) (f6 : Nat → Int32) (k7 : Nat) (n7 : Nat) (f7 : Nat → Int32) (k8 : Nat) (n8 : Nat) (f8 : Nat → Int32) (k9 : Nat) (n9 : Nat) (f9 : Nat → Int32) (k10 : Nat) (f10 : Nat → Int32) (k11 : Nat) (f11 : Nat → Int32) (r12_0 : Nat) (v12_1 : Int32) (v12_2 : Int32) (k13 : Nat) (f13 : Nat → Int32) (k14 : Nat) (f14 : Nat → Int32) (k15 : Nat) (f15 : Nat → Int32) (k16 : Nat) (f16 : Nat → Int32) (k17 : Nat) (f17 : Nat → Int64) (k18 : Nat) (f18 : Nat → Int32) (r19_0 : Nat) (r19_1 : Nat) (r19_2 : Nat) (k20 : Nat) (f20 : Nat → Int64) (k21 : Nat) (f21 : Nat → Int64) (k22 : Nat) (f22 : Nat → Int32) (k23 : Nat) (f23 : Nat → Int32) (o : Int32 × Int32 × Int32 × Int32 × (Nat → Int32) × Nat × (Nat → Int32) × Nat × (Nat → Int32) × Nat × (Nat → Int32) × Nat × (Nat → Int32) × Nat × (Nat → Int32) × Int32 × Int32 × (Nat → Int64)) (hfn : fn_X1_searchAll v0_6 v0_7 v0_8 v1_0 v1_5 v2_0 v2_1 v3_0 f4 n5 f5 n6 f6 n7 f7 n8 f8 n9 f9 f10 f11 v12_1 v12_2 f13 f14 f15 f16 f17 f18 f20 f21 f22 f23 = some o) (sz : Nat) : Met l yX1_searchAll wsX1_searchAll ({ frames := 4, cells := 5, slots := 18432, locals := 125 }) (va_Pc [.ref h0, .ref h1] (fun U => va_Nw (.methodLinkNest RX7 90 yX11_divides RX11) U ∧ U.heap.size = sz ∧ va_P (dC, dI) vwCl [zV1 h0 r0_0 r0_1 v0_2 v0_3 r0_4 r0_5 v0_6 v0_7 v0_8 v0_9 v0_10 r0_11 r0_12 r0_13, zV9 h1 v1_0 r1_1 r1_2 r1_3 r1_4 v1_5 r1_6 r1_7 r1_8, zV2 r1_7 v2_0 v2_1 v2_2 r2_3 r2_4 r2_5, zV4 r1_6 v3_0 v3_1 r3_2 r3_3 r3_4 r3_5 r3_6 r3_7 r3_8 r3_9, zVi r3_5 k4 14 f4, zVi r0_4 k5 n5 f5, zVi r0_5 k6 n6 f6, zVi r0_12 k7 n7 f7, zVi r0_11 k8 n8 f8, zVi r0_13 k9 n9 f9, zVi r2_4 k10 14 f10, zVi r0_1 k11 14 f11, zV7 r0_0 r12_0 v12_1 v12_2, zVi r2_3 k13 14 f13, zVi r1_2 k14 4 f14, zVi r3_3 k15 14 f15, zVi r3_8 k16 28 f16, zVl r12_0 k17 14 f17, zVi r3_9 k18 28 f18, zV6 r1_8 r19_0 r19_1 r19_2, zVl r19_0 k20 14 f20, zVl r19_1 k21 14 f21, zVi r1_3 k22 4 f22, zVi r1_4 k23 4 f23] U.heap ∧ va_K (dC, dI) vwCl [(k4, .int), (k5, .int), (k6, .int), (k7, .int), (k8, .int), (k9, .int), (k10, .int), (k11, .int), (k13, .int), (k14, .int), (k15, .int), (k16, .int), (k17, .long), (k18, .int), (k20, .long), (k21, .long), (k22, .int), (k23, .int)] U ∧ va_D (fun _ => True) [zV1 h0 r0_0 r0_1 v0_2 v0_3 r0_4 r0_5 v0_6 v0_7 v0_8 v0_9 v0_10 r0_11 r0_12 r0_13, zV9 h1 v1_0 r1_1 r1_2 r1_3 r1_4 v1_5 r1_6 r1_7 r1_8, zV2 r1_7 v2_0 v2_1 v2_2 r2_3 r2_4 r2_5, zV4 r1_6 v3_0 v3_1 r3_2 r3_3 r3_4 r3_5 r3_6 r3_7 r3_8 r3_9, zVi r3_5 k4 14 f4, zVi r0_4 k5 n5 f5, zVi r0_5 k6 n6 f6, zVi r0_12 k7 n7 f7, zVi r0_11 k8 n8 f8, zVi r0_13 k9 n9 f9, zVi r2_4 k10 14 f10, zVi r0_1 k11 14 f11, zV7 r0_0 r12_0 v12_1 v12_2, zVi r2_3 k13 14 f13, zVi r1_2 k14 4 f14, zVi r3_3 k15 14 f15, zVi r3_8 k16 28 f16, zVl r12_0 k17 14 f17, zVi r3_9 k18 28 f18, zV6 r1_8 r19_0 r19_1 r19_2, zVl r19_0 k20 14 f20, zVl r19_1 k21 14 f21, zVi r1_3 k22 4 f22, zVi r1_4 k23 4 f23])) (va_Qv (fun (u : Nat → Nat) => True) (fun u t => va_P (dC, dI) vwCl [zV1 h0 r0_0 r0_1 v0_2 o.1 (u 0) (u 2) o.2.1 o.2.2.1 o.2.2.2.1 v0_9 v0_10 (u 6) (u 4) (u 8), zV9 h1 v1_0 r1_1 r1_2 r1_3 r1_4 v1_5 r1_6 r1_7 r1_8, zV2 r1_7 v2_0 v2_1 v2_2 r2_3 r2_4 r2_5, zV4 r1_6 v3_0 v3_1 r3_2 r3_3 r3_4 r3_5 r3_6 r3_7 r3_8 r3_9, zVi r3_5 k4 14 f4, zVi (u 0) (u 1) o.2.2.2.2.2.1 o.2.2.2.2.1, zVi (u 2) (u 3) o.2.2.2.2.2.2.2.1 o.2.2.2.2.2.2.1, zVi (u 4) (u 5) o.2.2.2.2.2.2.2.2.2.1 o.2.2.2.2.2.2.2.2.1, zVi (u 6) (u 7) o.2.2.2.2.2.2.2.2.2.2.2.1 o.2.2.2.2.2.2.2.2.2.2.1, zVi (u 8) (u 9) o.2.2.2.2.2.2.2.2.2.2.2.2.2.1 o.2.2.2.2.2.2.2.2.2.2.2.2.1, zVi r2_4 k10 14 f10, zVi r0_1 k11 14 o.2.2.2.2.2.2.2.2.2.2.2.2.2.2.1, zV7 r0_0 r12_0 o.2.2.2.2.2.2.2.2.2.2.2.2.2.2.2.1 o.2.2.2.2.2.2.2.2.2.2.2.2.2.2.2.2.1, zVi r2_3 k13 14 f13, zVi r1_2 k14 4 f14, zVi r3_3 k15 14 f15, zVi r3_8 k16 28 f16, zVl r12_0 k17 14 o.2.2.2.2.2.2.2.2.2.2.2.2.2.2.2.2.2, zVi r3_9 k18 28 f18, zV6 r1_8 r19_0 r19_1 r19_2, zVl r19_0 k20 14 f20, zVl r19_1 k21 14 f21, zVi r1_3 k22 4 f22, zVi r1_4 k23 4 f23] t.heap ∧ va_K (dC, dI) vwCl [(k4, .int), ((u 1), .int), ((u 3), .int), ((u 5), .int), ((u 7), .int), ((u 9), .int), (k10, .int), (k11, .int), (k13, .int), (k14, .int), (k15, .int), (k16, .int), (k17, .long), (k18, .int), (k20, .long), (k21, .long), (k22, .int), (k23, .int)] t ∧ va_D (va_A [zV1 h0 r0_0 r0_1 v0_2 v0_3 r0_4 r0_5 v0_6 v0_7 v0_8 v0_9 v0_10 r0_11 r0_12 r0_13, zV9 h1 v1_0 r1_1 r1_2 r1_3 r1_4 v1_5 r1_6 r1_7 r1_8, zV2 r1_7 v2_0 v2_1 v2_2 r2_3 r2_4 r2_5, zV4 r1_6 v3_0 v3_1 r3_2 r3_3 r3_4 r3_5 r3_6 r3_7 r3_8 r3_9, zVi r3_5 k4 14 f4, zVi r0_4 k5 n5 f5, zVi r0_5 k6 n6 f6, zVi r0_12 k7 n7 f7, zVi r0_11 k8 n8 f8, zVi r0_13 k9 n9 f9, zVi r2_4 k10 14 f10, zVi r0_1 k11 14 f11, zV7 r0_0 r12_0 v12_1 v12_2, zVi r2_3 k13 14 f13, zVi r1_2 k14 4 f14, zVi r3_3 k15 14 f15, zVi r3_8 k16 28 f16, zVl r12_0 k17 14 f17, zVi r3_9 k18 28 f18, zV6 r1_8 r19_0 r19_1 r19_2, zVl r19_0 k20 14 f20, zVl r19_1 k21 14 f21, zVi r1_3 k22 4 f22, zVi r1_4 k23 4 f23] sz) [zV1 h0 r0_0 r0_1 v0_2 o.1 (u 0) (u 2) o.2.1 o.2.2.1 o.2.2.2.1 v0_9 v0_10 (u 6) (u 4) (u 8), zV9 h1 v1_0 r1_1 r1_2 r1_3 r1_4 v1_5 r1_6 r1_7 r1_8, zV2 r1_7 v2_0 v2_1 v2_2 r2_3 r2_4 r2_5, zV4 r1_6 v3_0 v3_1 r3_2 r3_3 r3_4 r3_5 r3_6 r3_7 r3_8 r3_9, zVi r3_5 k4 14 f4, zVi (u 0) (u 1) o.2.2.2.2.2.1 o.2.2.2.2.1, zVi (u 2) (u 3) o.2.2.2.2.2.2.2.1 o.2.2.2.2.2.2.1, zVi (u 4) (u 5) o.2.2.2.2.2.2.2.2.2.1 o.2.2.2.2.2.2.2.2.1, zVi (u 6) (u 7) o.2.2.2.2.2.2.2.2.2.2.2.1 o.2.2.2.2.2.2.2.2.2.2.1, zVi (u 8) (u 9) o.2.2.2.2.2.2.2.2.2.2.2.2.2.1 o.2.2.2.2.2.2.2.2.2.2.2.2.1, zVi r2_4 k10 14 f10, zVi r0_1 k11 14 o.2.2.2.2.2.2.2.2.2.2.2.2.2.2.1, zV7 r0_0 r12_0 o.2.2.2.2.2.2.2.2.2.2.2.2.2.2.2.1 o.2.2.2.2.2.2.2.2.2.2.2.2.2.2.2.2.1, zVi r2_3 k13 14 f13, zVi r1_2 k14 4 f14, zVi r3_3 k15 14 f15, zVi r3_8 k16 28 f16, zVl r12_0 k17 14 o.2.2.2.2.2.2.2.2.2.2.2.2.2.2.2.2.2, zVi r3_9 k18 28 f18, zV6 r1_8 r19_0 r19_1 r19_2, zVl r19_0 k20 14 f20, zVl r19_1 k21 14 f21, zVi r1_3 k22 4 f22, zVi r1_4 k23 4 f23]) (va_A [zV1 h0 r0_0 r0_1 v0_2 v0_3 r0_4 r0_5 v0_6 v0_7 v0_8 v0_9 v0_10 r0_11 r0_12 r0_13, zV9 h1 v1_0 r1_1 r1_2 r1_3 r1_4 v1_5 r1_6 r1_7 r1_8, zV2 r1_7 v2_0 v2_1 v2_2 r2_3 r2_4 r2_5, zV4 r1_6 v3_0 v3_1 r3_2 r3_3 r3_4 r3_5 r3_6 r3_7 r3_8 r3_9, zVi r3_5 k4 14 f4, zVi r0_4 k5 n5 f5, zVi r0_5 k6 n6 f6, zVi r0_12 k7 n7 f7, zVi r0_11 k8 n8 f8, zVi r0_13 k9 n9 f9, zVi r2_4 k10 14 f10, zVi r0_1 k11 14 f11, zV7 r0_0 r12_0 v12_1 v12_2, zVi r2_3 k13 14 f13, zVi r1_2 k14 4 f14, zVi r3_3 k15 14 f15, zVi r3_8 k16 28 f16, zVl r12_0 k17 14 f17, zVi r3_9 k18 28 f18, zV6 r1_8 r19_0 r19_1 r19_2, zVl r19_0 k20 14 f20, zVl r19_1 k21 14 f21, zVi r1_3 k22 4 f22, zVi r1_4 k23 4 f23] sz)) 5 18432 (va_A [zV1 h0 r0_0 r0_1 v0_2 v0_3 r0_4 r0_5 v0_6 v0_7 v0_8 v0_9 v0_10 r0_11 r0_12 r0_13, zV9 h1 v1_0 r1_1 r1_2 r1_3 r1_4 v1_5 r1_6 r1_7 r1_8, zV2 r1_7 v2_0 v2_1 v2_2 r2_3 r2_4 r2_5, zV4 r1_6 v3_0 v3_1 r3_2 r3_3 r3_4 r3_5 r3_6 r3_7 r3_8 r3_9, zVi r3_5 k4 14 f4, zVi r0_4 k5 n5 f5, zVi r0_5 k6 n6 f6, zVi r0_12 k7 n7 f7, zVi r0_11 k8 n8 f8, zVi r0_13 k9 n9 f9, zVi r2_4 k10 14 f10, zVi r0_1 k11 14 f11, zV7 r0_0 r12_0 v12_1 v12_2, zVi r2_3 k13 14 f13, zVi r1_2 k14 4 f14, zVi r3_3 k15 14 f15, zVi r3_8 k16 28 f16, zVl r12_0 k17 14 f17, zVi r3_9 k18 28 f18, zV6 r1_8 r19_0 r19_1 r19_2, zVl r19_0 k20 14 f20, zVl r19_1 k21 14 f21, zVi r1_3 k22 4 f22, zVi r1_4 k23 4 f23] sz) := by
  refine Met.ofW (cc := cX1_searchAll) (maxL := 4) (ret := none) (by decide +kernel) rfl ?_
  intro p e s m args below meth c s₁ B hml hv
  obtain ⟨rfl, hn0, hsz, hP, hK, hD0⟩ := hv
  have hx := B.exec
  have hb := B.bytes
  have hr := B.returns
  have hts := atoms_spec (ws := wsX1_searchAll) B.pre
  have hown : s.vm.findClass RX1 = some m.cls := (findClass_of_methodNamed B.named :)
  have hlocks := B.notSynchronized
  subst hsz
  have hD := hD0.self (sz := s.heap.size)
  generalize hAe : va_A [zV1 h0 r0_0 r0_1 v0_2 v0_3 r0_4 r0_5 v0_6 v0_7 v0_8 v0_9 v0_10 r0_11 r0_12 r0_13, zV9 h1 v1_0 r1_1 r1_2 r1_3 r1_4 v1_5 r1_6 r1_7 r1_8, zV2 r1_7 v2_0 v2_1 v2_2 r2_3 r2_4 r2_5, zV4 r1_6 v3_0 v3_1 r3_2 r3_3 r3_4 r3_5 r3_6 r3_7 r3_8 r3_9, zVi r3_5 k4 14 f4, zVi r0_4 k5 n5 f5, zVi r0_5 k6 n6 f6, zVi r0_12 k7 n7 f7, zVi r0_11 k8 n8 f8, zVi r0_13 k9 n9 f9, zVi r2_4 k10 14 f10, zVi r0_1 k11 14 f11, zV7 r0_0 r12_0 v12_1 v12_2, zVi r2_3 k13 14 f13, zVi r1_2 k14 4 f14, zVi r3_3 k15 14 f15, zVi r3_8 k16 28 f16, zVl r12_0 k17 14 f17, zVi r3_9 k18 28 f18, zV6 r1_8 r19_0 r19_1 r19_2, zVl r19_0 k20 14 f20, zVl r19_1 k21 14 f21, zVi r1_3 k22 4 f22, zVi r1_4 k23 4 f23] s.heap.size = A at hD ⊢
  have hA : ∀ q : Nat, s.heap.size ≤ q → A q := fun q h => by rw [← hAe]; exact Or.inr h
  have hS : va_S A s.heap s.heap [] := va_S.rf
  have hP : va_P (dC, dI) vwCl [zV1 h0 r0_0 r0_1 v0_2 v0_3 r0_4 r0_5 v0_6 v0_7 v0_8 v0_9 v0_10 r0_11 r0_12 r0_13, zV9 h1 v1_0 r1_1 r1_2 r1_3 r1_4 v1_5 r1_6 r1_7 r1_8, zV2 r1_7 v2_0 v2_1 v2_2 r2_3 r2_4 r2_5, zV4 r1_6 v3_0 v3_1 r3_2 r3_3 r3_4 r3_5 r3_6 r3_7 r3_8 r3_9, zVi r3_5 k4 14 f4, zVi r0_4 k5 n5 f5, zVi r0_5 k6 n6 f6, zVi r0_12 k7 n7 f7, zVi r0_11 k8 n8 f8, zVi r0_13 k9 n9 f9, zVi r2_4 k10 14 f10, zVi r0_1 k11 14 f11, zV7 r0_0 r12_0 v12_1 v12_2, zVi r2_3 k13 14 f13, zVi r1_2 k14 4 f14, zVi r3_3 k15 14 f15, zVi r3_8 k16 28 f16, zVl r12_0 k17 14 f17, zVi r3_9 k18 28 f18, zV6 r1_8 r19_0 r19_1 r19_2, zVl r19_0 k20 14 f20, zVl r19_1 k21 14 f21, zVi r1_3 k22 4 f22, zVi r1_4 k23 4 f23] s.heap := hP
  have hl := lv_entry ([.ref h0, .ref h1]) (n := 4) (Nat.le_of_ble_eq_true rfl)
  rw [lg_entry_eq]
  generalize (lg_sl ([.ref h0, .ref h1]) ++ List.replicate (4 - (lg_sl ([.ref h0, .ref h1])).length) Slot.unset).toArray = ls at hl ⊢
  have hl : lv_has ls 4 [(0, .ref h0), (1, .ref h1)] := hl
  refine zQ (fun Q hQ => ?_)
  unfold fn_X1_searchAll at hfn
  refine lv_iconst (v := 1) hx hb dX1_searchAll_0 zci_1 ?_
  refine lv_istore_n (lv' := [(2, .int 1), (0, .ref h0), (1, .ref h1)]) hx hb dX1_searchAll_1 rfl hl (of_decide_eq_true rfl) rfl (fun ls hl => ?_)
  refine lv_iconst (v := 0) hx hb dX1_searchAll_2 zci_0 ?_
  refine lv_istore_n (lv' := [(3, .int 0), (2, .int 1), (0, .ref h0), (1, .ref h1)]) hx hb dX1_searchAll_3 rfl hl (of_decide_eq_true rfl) rfl (fun ls hl => ?_)
  obtain ⟨bd_1, ebd_1, hfn⟩ := zl_g hfn
  have lp_1 : ∀ (n : Nat) (s_1 : Int32 × Int32) (H : Heap) (locs : List Loc) (ls : Array Slot), zl bd_1 n s_1 = some o → va_P (dC, dI) vwCl [zV1 h0 r0_0 r0_1 v0_2 v0_3 r0_4 r0_5 v0_6 v0_7 v0_8 v0_9 v0_10 r0_11 r0_12 r0_13, zV9 h1 v1_0 r1_1 r1_2 r1_3 r1_4 v1_5 r1_6 r1_7 r1_8, zV2 r1_7 v2_0 v2_1 v2_2 r2_3 r2_4 r2_5, zV4 r1_6 v3_0 v3_1 r3_2 r3_3 r3_4 r3_5 r3_6 r3_7 r3_8 r3_9, zVi r3_5 k4 14 f4, zVi r0_4 k5 n5 f5, zVi r0_5 k6 n6 f6, zVi r0_12 k7 n7 f7, zVi r0_11 k8 n8 f8, zVi r0_13 k9 n9 f9, zVi r2_4 k10 14 f10, zVi r0_1 k11 14 f11, zV7 r0_0 r12_0 v12_1 v12_2, zVi r2_3 k13 14 f13, zVi r1_2 k14 4 f14, zVi r3_3 k15 14 f15, zVi r3_8 k16 28 f16, zVl r12_0 k17 14 f17, zVi r3_9 k18 28 f18, zV6 r1_8 r19_0 r19_1 r19_2, zVl r19_0 k20 14 f20, zVl r19_1 k21 14 f21, zVi r1_3 k22 4 f22, zVi r1_4 k23 4 f23] H → va_D A [zV1 h0 r0_0 r0_1 v0_2 v0_3 r0_4 r0_5 v0_6 v0_7 v0_8 v0_9 v0_10 r0_11 r0_12 r0_13, zV9 h1 v1_0 r1_1 r1_2 r1_3 r1_4 v1_5 r1_6 r1_7 r1_8, zV2 r1_7 v2_0 v2_1 v2_2 r2_3 r2_4 r2_5, zV4 r1_6 v3_0 v3_1 r3_2 r3_3 r3_4 r3_5 r3_6 r3_7 r3_8 r3_9, zVi r3_5 k4 14 f4, zVi r0_4 k5 n5 f5, zVi r0_5 k6 n6 f6, zVi r0_12 k7 n7 f7, zVi r0_11 k8 n8 f8, zVi r0_13 k9 n9 f9, zVi r2_4 k10 14 f10, zVi r0_1 k11 14 f11, zV7 r0_0 r12_0 v12_1 v12_2, zVi r2_3 k13 14 f13, zVi r1_2 k14 4 f14, zVi r3_3 k15 14 f15, zVi r3_8 k16 28 f16, zVl r12_0 k17 14 f17, zVi r3_9 k18 28 f18, zV6 r1_8 r19_0 r19_1 r19_2, zVl r19_0 k20 14 f20, zVl r19_1 k21 14 f21, zVi r1_3 k22 4 f22, zVi r1_4 k23 4 f23] → va_S A s.heap H locs → lv_has ls 4 [(3, .int s_1.2), (2, .int s_1.1), (0, .ref h0), (1, .ref h1)] → W p l e (headSpec wsX1_searchAll ({ frames := 4, cells := 5, slots := 18432, locals := 125 })).room s m ([.ref h0, .ref h1] : List Value).toArray below meth c H locs 0 0 Q (F0 m 4 ls []) := by
    intro n
    induction n with
    | zero => exact fun _ _ _ _ hfn => (zl_0 hfn).elim
    | succ n ih_1 =>
      intro s_1 H locs ls hfn hP hD hS hl
      have hfn := zl_s ebd_1 hfn
      refine lv_iload_n hx hb dX1_searchAll_4 rfl (lv_at hl 0 rfl) ?_
      refine lv_aload_n hx hb dX1_searchAll_5 rfl (lv_at hl 3 rfl) ?_
      refine va_get (D := (dC, dI)) (ci := 9) (v := .ref r1_7) (C := RX9) (T := TX9) (N := 9) hx hb hts zn_X1_searchAll_X9 hown hK hP 1 rfl rfl 7 (of_decide_eq_true rfl) (hts (.fieldLink RX1 59 "ShortEnough$Task" "groups" "LShortEnough$Groups;") zw_X1_searchAll_165) (fun _ h9 => h9) rfl dX1_searchAll_6 ?_
      refine va_get (D := (dC, dI)) (ci := 2) (v := .int v2_1) (C := RX2) (T := TX2) (N := 6) hx hb hts zn_X1_searchAll_X2 hown hK hP 2 rfl rfl 1 (of_decide_eq_true rfl) (hts (.fieldLink RX1 63 "ShortEnough$Groups" "free" "I") zw_X1_searchAll_167) (fun _ h9 => h9) rfl dX1_searchAll_9 ?_
      obtain ⟨j_2, ej_2, hfn⟩ := zj_g hfn
      have jp_2 : ∀ (s_2 : Unit) (H : Heap) (locs : List Loc) (ls : Array Slot), j_2 s_2 = some o → va_P (dC, dI) vwCl [zV1 h0 r0_0 r0_1 v0_2 v0_3 r0_4 r0_5 v0_6 v0_7 v0_8 v0_9 v0_10 r0_11 r0_12 r0_13, zV9 h1 v1_0 r1_1 r1_2 r1_3 r1_4 v1_5 r1_6 r1_7 r1_8, zV2 r1_7 v2_0 v2_1 v2_2 r2_3 r2_4 r2_5, zV4 r1_6 v3_0 v3_1 r3_2 r3_3 r3_4 r3_5 r3_6 r3_7 r3_8 r3_9, zVi r3_5 k4 14 f4, zVi r0_4 k5 n5 f5, zVi r0_5 k6 n6 f6, zVi r0_12 k7 n7 f7, zVi r0_11 k8 n8 f8, zVi r0_13 k9 n9 f9, zVi r2_4 k10 14 f10, zVi r0_1 k11 14 f11, zV7 r0_0 r12_0 v12_1 v12_2, zVi r2_3 k13 14 f13, zVi r1_2 k14 4 f14, zVi r3_3 k15 14 f15, zVi r3_8 k16 28 f16, zVl r12_0 k17 14 f17, zVi r3_9 k18 28 f18, zV6 r1_8 r19_0 r19_1 r19_2, zVl r19_0 k20 14 f20, zVl r19_1 k21 14 f21, zVi r1_3 k22 4 f22, zVi r1_4 k23 4 f23] H → va_D A [zV1 h0 r0_0 r0_1 v0_2 v0_3 r0_4 r0_5 v0_6 v0_7 v0_8 v0_9 v0_10 r0_11 r0_12 r0_13, zV9 h1 v1_0 r1_1 r1_2 r1_3 r1_4 v1_5 r1_6 r1_7 r1_8, zV2 r1_7 v2_0 v2_1 v2_2 r2_3 r2_4 r2_5, zV4 r1_6 v3_0 v3_1 r3_2 r3_3 r3_4 r3_5 r3_6 r3_7 r3_8 r3_9, zVi r3_5 k4 14 f4, zVi r0_4 k5 n5 f5, zVi r0_5 k6 n6 f6, zVi r0_12 k7 n7 f7, zVi r0_11 k8 n8 f8, zVi r0_13 k9 n9 f9, zVi r2_4 k10 14 f10, zVi r0_1 k11 14 f11, zV7 r0_0 r12_0 v12_1 v12_2, zVi r2_3 k13 14 f13, zVi r1_2 k14 4 f14, zVi r3_3 k15 14 f15, zVi r3_8 k16 28 f16, zVl r12_0 k17 14 f17, zVi r3_9 k18 28 f18, zV6 r1_8 r19_0 r19_1 r19_2, zVl r19_0 k20 14 f20, zVl r19_1 k21 14 f21, zVi r1_3 k22 4 f22, zVi r1_4 k23 4 f23] → va_S A s.heap H locs → lv_has ls 4 [(2, .int s_1.1), (0, .ref h0), (1, .ref h1)] → W p l e (headSpec wsX1_searchAll ({ frames := 4, cells := 5, slots := 18432, locals := 125 })).room s m ([.ref h0, .ref h1] : List Value).toArray below meth c H locs 0 0 Q (F0 m 33 ls []) := by
        intro s_2 H locs ls hfn hP hD hS hl
        have hfn := zj_s ej_2 hfn
        refine lv_aload_n hx hb dX1_searchAll_33 rfl (lv_at hl 1 rfl) ?_
        refine lv_aload_n hx hb dX1_searchAll_34 rfl (lv_at hl 2 rfl) ?_
        refine va_get (D := (dC, dI)) (ci := 9) (v := .ref r1_6) (C := RX9) (T := TX9) (N := 9) hx hb hts zn_X1_searchAll_X9 hown hK hP 1 rfl rfl 6 (of_decide_eq_true rfl) (hts (.fieldLink RX1 48 "ShortEnough$Task" "numbers" "LShortEnough$Numbers;") zw_X1_searchAll_169) (fun _ h9 => h9) rfl dX1_searchAll_35 ?_
        refine lv_aload_n hx hb dX1_searchAll_38 rfl (lv_at hl 2 rfl) ?_
        refine va_get (D := (dC, dI)) (ci := 9) (v := .ref r1_6) (C := RX9) (T := TX9) (N := 9) hx hb hts zn_X1_searchAll_X9 hown hK hP 1 rfl rfl 6 (of_decide_eq_true rfl) (hts (.fieldLink RX1 48 "ShortEnough$Task" "numbers" "LShortEnough$Numbers;") zw_X1_searchAll_169) (fun _ h9 => h9) rfl dX1_searchAll_39 ?_
        refine va_get (D := (dC, dI)) (ci := 4) (v := .int v3_0) (C := RX4) (T := TX4) (N := 10) hx hb hts zn_X1_searchAll_X4 hown hK hP 3 rfl rfl 0 (of_decide_eq_true rfl) (hts (.fieldLink RX1 54 "ShortEnough$Numbers" "count" "I") zw_X1_searchAll_171) (fun _ h9 => h9) rfl dX1_searchAll_42 ?_
        obtain ⟨o_3, hqo_3, hfn⟩ := zb_s hfn
        refine zcVi (ci := 4) (rest := [.ref h0]) (pc' := 48) (ws' := [zV1 h0 r0_0 r0_1 v0_2 v0_3 r0_4 r0_5 v0_6 v0_7 v0_8 v0_9 v0_10 r0_11 r0_12 r0_13, zV9 h1 v1_0 r1_1 r1_2 r1_3 r1_4 v1_5 r1_6 r1_7 r1_8, zV2 r1_7 v2_0 v2_1 v2_2 r2_3 r2_4 r2_5, zV4 r1_6 v3_0 v3_1 r3_2 r3_3 r3_4 r3_5 r3_6 r3_7 r3_8 r3_9, zVi r3_5 k4 14 f4, zVi r0_4 k5 n5 f5, zVi r0_5 k6 n6 f6, zVi r0_12 k7 n7 f7, zVi r0_11 k8 n8 f8, zVi r0_13 k9 n9 f9, zVi r2_4 k10 14 f10, zVi r0_1 k11 14 f11, zV7 r0_0 r12_0 v12_1 v12_2, zVi r2_3 k13 14 f13, zVi r1_2 k14 4 f14, zVi r3_3 k15 14 f15, zVi r3_8 k16 28 f16, zVl r12_0 k17 14 f17, zVi r3_9 k18 28 f18, zV6 r1_8 r19_0 r19_1 r19_2, zVl r19_0 k20 14 f20, zVl r19_1 k21 14 f21, zVi r1_3 k22 4 f22, zVi r1_4 k23 4 f23]) hP hK hD hS hA ⟨hx, hb, hml, hown, hts⟩ (zf_X4_countAnswers l dC dI r1_6 v3_0 v3_0 v3_1 r3_2 r3_3 r3_4 r3_5 r3_6 r3_7 r3_8 r3_9 k4 f4 o_3 hqo_3 H.size) (cwV 1 hts gX1_searchAll_X4_countAnswers rfl rfl rfl zhd_X4_countAnswers ⟨Nat.le_of_ble_eq_true rfl, Nat.le_of_ble_eq_true rfl⟩) [3, 4] rfl (of_decide_eq_true rfl) [0] rfl rfl rfl rfl hl.1 rfl (Nat.le_of_ble_eq_true rfl) dX1_searchAll_45 ⟨Nat.le_of_ble_eq_true rfl, Nat.le_of_ble_eq_true rfl⟩ [none, none, none, some 0, some 1] (of_decide_eq_true rfl) (of_decide_eq_true rfl) rfl rfl rfl (fun H locs hP hD hS => ?_)
        refine va_put (D := (dC, dI)) (ci := 1) (v := .int o_3) (ty := .int) (C := RX1) (T := TX1) (N := 14) hx hb hts zn_X1_searchAll_X1 tyX1 tyX1_ok nmX1 hown hK hP hD hS 0 rfl rfl 3 (of_decide_eq_true rfl) (hts (.fieldLink RX1 86 "ShortEnough$FullSearch" "answers" "I") zw_X1_searchAll_176) (fun _ h9 => h9) rfl (tyX1_ok 3 (of_decide_eq_true rfl)) rfl rfl (Nat.le_of_ble_eq_true rfl) dX1_searchAll_48 (fun H locs hP hD hS => ?_)
        have hP : va_P (dC, dI) vwCl [zV1 h0 r0_0 r0_1 v0_2 o_3 r0_4 r0_5 v0_6 v0_7 v0_8 v0_9 v0_10 r0_11 r0_12 r0_13, zV9 h1 v1_0 r1_1 r1_2 r1_3 r1_4 v1_5 r1_6 r1_7 r1_8, zV2 r1_7 v2_0 v2_1 v2_2 r2_3 r2_4 r2_5, zV4 r1_6 v3_0 v3_1 r3_2 r3_3 r3_4 r3_5 r3_6 r3_7 r3_8 r3_9, zVi r3_5 k4 14 f4, zVi r0_4 k5 n5 f5, zVi r0_5 k6 n6 f6, zVi r0_12 k7 n7 f7, zVi r0_11 k8 n8 f8, zVi r0_13 k9 n9 f9, zVi r2_4 k10 14 f10, zVi r0_1 k11 14 f11, zV7 r0_0 r12_0 v12_1 v12_2, zVi r2_3 k13 14 f13, zVi r1_2 k14 4 f14, zVi r3_3 k15 14 f15, zVi r3_8 k16 28 f16, zVl r12_0 k17 14 f17, zVi r3_9 k18 28 f18, zV6 r1_8 r19_0 r19_1 r19_2, zVl r19_0 k20 14 f20, zVl r19_1 k21 14 f21, zVi r1_3 k22 4 f22, zVi r1_4 k23 4 f23] H := hP
        have hD := zDW hD hP rfl
        refine lv_aload_n hx hb dX1_searchAll_51 rfl (lv_at hl 1 rfl) ?_
        refine lv_iload_n hx hb dX1_searchAll_52 rfl (lv_at hl 0 rfl) ?_
        obtain ⟨o_7, hqo_7, hfn⟩ := zb_s hfn
        have hC := zC hP [0, 5, 6, 7, 8, 9] (wc := [zV1 h0 r0_0 r0_1 v0_2 o_3 r0_4 r0_5 v0_6 v0_7 v0_8 v0_9 v0_10 r0_11 r0_12 r0_13, zVi r0_4 k5 n5 f5, zVi r0_5 k6 n6 f6, zVi r0_12 k7 n7 f7, zVi r0_11 k8 n8 f8, zVi r0_13 k9 n9 f9]) rfl
        have hPc := hP.sub [0, 5, 6, 7, 8, 9] (zfm hC)
        have hDc := hD.sub [0, 5, 6, 7, 8, 9] (of_decide_eq_true rfl) hC
        have hKc := hK.sub (tys' := [(k5, .int), (k6, .int), (k7, .int), (k8, .int), (k9, .int)]) [1, 2, 3, 4, 5] rfl
        have hFc := va_free hD hS hA [0, 5, 6, 7, 8, 9] hC
        refine va_callv (va_runV (As := [.int s_1.1]) (rest := []) ⟨hx, hb, hml, hown, hts⟩ (zf_X1_makeRoom l dC dI h0 s_1.1 r0_0 r0_1 v0_2 o_3 r0_4 r0_5 v0_6 v0_7 v0_8 v0_9 v0_10 r0_11 r0_12 r0_13 k5 n5 f5 k6 n6 f6 k7 n7 f7 k8 n8 f8 k9 n9 f9 o_7 hqo_7 H.size) (cwV 1 hts gX1_searchAll_X1_makeRoom rfl rfl rfl zhd_X1_makeRoom ⟨Nat.le_of_ble_eq_true rfl, Nat.le_of_ble_eq_true rfl⟩) ⟨fun a U g mk q => by obtain ⟨q0, q1, qP, qK, qD⟩ := q; exact ⟨q0, q1, qP, va_K.moved (u := U) (U := U.calling g mk a) (Vm.Alike.refl U.vm) qK, qD⟩, zrecv hKc hPc (ci := 1) (q0 := 0) rfl rfl, fun U hU hW => ⟨rfl, by rw [hU], by rw [hU]; exact hPc, va_K.moved hW.alike hKc, hDc.weaken (fun _ _ _ _ => trivial)⟩⟩ rfl rfl hl.1 rfl (lv_room (Nat.le_of_ble_eq_true rfl)) dX1_searchAll_53 ⟨Nat.le_of_ble_eq_true rfl, Nat.le_of_ble_eq_true rfl⟩) hS (fun q _ h => hFc q h) hFc (fun u_9 t H1 locs ht hvm hw_10 hB hz1 hk1 hS => ?_)
        obtain ⟨hP1, hK1, hD1⟩ := hB
        rw [ht] at hP1
        have hK1 := va_K.moved hvm.symm hK1
        obtain ⟨hP, hD⟩ := zjn (ws' := [zV1 h0 r0_0 r0_1 v0_2 o_3 (u_9 0) (u_9 2) v0_6 v0_7 v0_8 v0_9 v0_10 (u_9 6) (u_9 4) (u_9 8), zV9 h1 v1_0 r1_1 r1_2 r1_3 r1_4 v1_5 r1_6 r1_7 r1_8, zV2 r1_7 v2_0 v2_1 v2_2 r2_3 r2_4 r2_5, zV4 r1_6 v3_0 v3_1 r3_2 r3_3 r3_4 r3_5 r3_6 r3_7 r3_8 r3_9, zVi r3_5 k4 14 f4, zVi (u_9 0) (u_9 1) o_7.2.1 o_7.1, zVi (u_9 2) (u_9 3) o_7.2.2.2.1 o_7.2.2.1, zVi (u_9 4) (u_9 5) o_7.2.2.2.2.2.1 o_7.2.2.2.2.1, zVi (u_9 6) (u_9 7) o_7.2.2.2.2.2.2.2.1 o_7.2.2.2.2.2.2.1, zVi (u_9 8) (u_9 9) o_7.2.2.2.2.2.2.2.2.2 o_7.2.2.2.2.2.2.2.2.1, zVi r2_4 k10 14 f10, zVi r0_1 k11 14 f11, zV7 r0_0 r12_0 v12_1 v12_2, zVi r2_3 k13 14 f13, zVi r1_2 k14 4 f14, zVi r3_3 k15 14 f15, zVi r3_8 k16 28 f16, zVl r12_0 k17 14 f17, zVi r3_9 k18 28 f18, zV6 r1_8 r19_0 r19_1 r19_2, zVl r19_0 k20 14 f20, zVl r19_1 k21 14 f21, zVi r1_3 k22 4 f22, zVi r1_4 k23 4 f23]) hP hD [0, 5, 6, 7, 8, 9] hC hk1 hFc hP1 hD1 [some 0, none, none, none, none, some 1, some 2, some 3, some 4, some 5] (of_decide_eq_true rfl) (of_decide_eq_true rfl) rfl rfl
        have hK := hK.app hK1
        generalize H1 = H at hP hS ⊢
        have hK : va_K (dC, dI) vwCl [(k4, .int), (k5, .int), (k6, .int), (k7, .int), (k8, .int), (k9, .int), (k10, .int), (k11, .int), (k13, .int), (k14, .int), (k15, .int), (k16, .int), (k17, .long), (k18, .int), (k20, .long), (k21, .long), (k22, .int), (k23, .int), ((u_9 1), .int), ((u_9 3), .int), ((u_9 5), .int), ((u_9 7), .int), ((u_9 9), .int)] s := hK
        refine lv_iconst (v := 0) hx hb dX1_searchAll_56 zci_0 ?_
        refine lv_istore_n (lv' := [(3, .int 0), (2, .int s_1.1), (0, .ref h0), (1, .ref h1)]) hx hb dX1_searchAll_57 rfl hl (of_decide_eq_true rfl) rfl (fun ls hl => ?_)
        obtain ⟨bd_11, ebd_11, hfn⟩ := zl_g hfn
        have lp_11 : ∀ (n : Nat) (s_11 : Int32 × Int32 × Int32 × Int32 × Int32 × Int32 × (Nat → Int32) × (Nat → Int32) × (Nat → Int32) × (Nat → Int64)) (H : Heap) (locs : List Loc) (ls : Array Slot), zl bd_11 n s_11 = some o → va_P (dC, dI) vwCl [zV1 h0 r0_0 r0_1 v0_2 o_3 (u_9 0) (u_9 2) s_11.2.1 s_11.2.2.1 s_11.2.2.2.1 v0_9 v0_10 (u_9 6) (u_9 4) (u_9 8), zV9 h1 v1_0 r1_1 r1_2 r1_3 r1_4 v1_5 r1_6 r1_7 r1_8, zV2 r1_7 v2_0 v2_1 v2_2 r2_3 r2_4 r2_5, zV4 r1_6 v3_0 v3_1 r3_2 r3_3 r3_4 r3_5 r3_6 r3_7 r3_8 r3_9, zVi r3_5 k4 14 f4, zVi (u_9 0) (u_9 1) o_7.2.1 s_11.2.2.2.2.2.2.1, zVi (u_9 2) (u_9 3) o_7.2.2.2.1 s_11.2.2.2.2.2.2.2.1, zVi (u_9 4) (u_9 5) o_7.2.2.2.2.2.1 o_7.2.2.2.2.1, zVi (u_9 6) (u_9 7) o_7.2.2.2.2.2.2.2.1 o_7.2.2.2.2.2.2.1, zVi (u_9 8) (u_9 9) o_7.2.2.2.2.2.2.2.2.2 o_7.2.2.2.2.2.2.2.2.1, zVi r2_4 k10 14 f10, zVi r0_1 k11 14 s_11.2.2.2.2.2.2.2.2.1, zV7 r0_0 r12_0 s_11.2.2.2.2.1 s_11.2.2.2.2.2.1, zVi r2_3 k13 14 f13, zVi r1_2 k14 4 f14, zVi r3_3 k15 14 f15, zVi r3_8 k16 28 f16, zVl r12_0 k17 14 s_11.2.2.2.2.2.2.2.2.2, zVi r3_9 k18 28 f18, zV6 r1_8 r19_0 r19_1 r19_2, zVl r19_0 k20 14 f20, zVl r19_1 k21 14 f21, zVi r1_3 k22 4 f22, zVi r1_4 k23 4 f23] H → va_D A [zV1 h0 r0_0 r0_1 v0_2 o_3 (u_9 0) (u_9 2) s_11.2.1 s_11.2.2.1 s_11.2.2.2.1 v0_9 v0_10 (u_9 6) (u_9 4) (u_9 8), zV9 h1 v1_0 r1_1 r1_2 r1_3 r1_4 v1_5 r1_6 r1_7 r1_8, zV2 r1_7 v2_0 v2_1 v2_2 r2_3 r2_4 r2_5, zV4 r1_6 v3_0 v3_1 r3_2 r3_3 r3_4 r3_5 r3_6 r3_7 r3_8 r3_9, zVi r3_5 k4 14 f4, zVi (u_9 0) (u_9 1) o_7.2.1 s_11.2.2.2.2.2.2.1, zVi (u_9 2) (u_9 3) o_7.2.2.2.1 s_11.2.2.2.2.2.2.2.1, zVi (u_9 4) (u_9 5) o_7.2.2.2.2.2.1 o_7.2.2.2.2.1, zVi (u_9 6) (u_9 7) o_7.2.2.2.2.2.2.2.1 o_7.2.2.2.2.2.2.1, zVi (u_9 8) (u_9 9) o_7.2.2.2.2.2.2.2.2.2 o_7.2.2.2.2.2.2.2.2.1, zVi r2_4 k10 14 f10, zVi r0_1 k11 14 s_11.2.2.2.2.2.2.2.2.1, zV7 r0_0 r12_0 s_11.2.2.2.2.1 s_11.2.2.2.2.2.1, zVi r2_3 k13 14 f13, zVi r1_2 k14 4 f14, zVi r3_3 k15 14 f15, zVi r3_8 k16 28 f16, zVl r12_0 k17 14 s_11.2.2.2.2.2.2.2.2.2, zVi r3_9 k18 28 f18, zV6 r1_8 r19_0 r19_1 r19_2, zVl r19_0 k20 14 f20, zVl r19_1 k21 14 f21, zVi r1_3 k22 4 f22, zVi r1_4 k23 4 f23] → va_S A s.heap H locs → lv_has ls 4 [(3, .int s_11.1), (2, .int s_1.1), (0, .ref h0), (1, .ref h1)] → W p l e (headSpec wsX1_searchAll ({ frames := 4, cells := 5, slots := 18432, locals := 125 })).room s m ([.ref h0, .ref h1] : List Value).toArray below meth c H locs 5 18432 Q (F0 m 58 ls []) := by
          intro n
          induction n with
          | zero => exact fun _ _ _ _ hfn => (zl_0 hfn).elim
          | succ n ih_11 =>
            intro s_11 H locs ls hfn hP hD hS hl
            have hfn := zl_s ebd_11 hfn
            refine lv_iload_n hx hb dX1_searchAll_58 rfl (lv_at hl 0 rfl) ?_
            refine lv_iload_n hx hb dX1_searchAll_59 rfl (lv_at hl 1 rfl) ?_
            refine lv_icmp_ge (tgt := 111) hx hb dX1_searchAll_60 (of_decide_eq_true rfl) (fun c_12 => ?_) (fun c_12 => ?_)
            · have hfn := (if_pos c_12).symm.trans hfn
              have ho := Option.some.inj hfn
              subst ho
              obtain ⟨hP9, hD9⟩ := zPD (ws' := [zV1 h0 r0_0 r0_1 v0_2 o_3 (u_9 0) (u_9 2) s_11.2.1 s_11.2.2.1 s_11.2.2.2.1 v0_9 v0_10 (u_9 6) (u_9 4) (u_9 8), zV9 h1 v1_0 r1_1 r1_2 r1_3 r1_4 v1_5 r1_6 r1_7 r1_8, zV2 r1_7 v2_0 v2_1 v2_2 r2_3 r2_4 r2_5, zV4 r1_6 v3_0 v3_1 r3_2 r3_3 r3_4 r3_5 r3_6 r3_7 r3_8 r3_9, zVi r3_5 k4 14 f4, zVi (u_9 0) (u_9 1) o_7.2.1 s_11.2.2.2.2.2.2.1, zVi (u_9 2) (u_9 3) o_7.2.2.2.1 s_11.2.2.2.2.2.2.2.1, zVi (u_9 4) (u_9 5) o_7.2.2.2.2.2.1 o_7.2.2.2.2.1, zVi (u_9 6) (u_9 7) o_7.2.2.2.2.2.2.2.1 o_7.2.2.2.2.2.2.1, zVi (u_9 8) (u_9 9) o_7.2.2.2.2.2.2.2.2.2 o_7.2.2.2.2.2.2.2.2.1, zVi r2_4 k10 14 f10, zVi r0_1 k11 14 s_11.2.2.2.2.2.2.2.2.1, zV7 r0_0 r12_0 s_11.2.2.2.2.1 s_11.2.2.2.2.2.1, zVi r2_3 k13 14 f13, zVi r1_2 k14 4 f14, zVi r3_3 k15 14 f15, zVi r3_8 k16 28 f16, zVl r12_0 k17 14 s_11.2.2.2.2.2.2.2.2.2, zVi r3_9 k18 28 f18, zV6 r1_8 r19_0 r19_1 r19_2, zVl r19_0 k20 14 f20, zVl r19_1 k21 14 f21, zVi r1_3 k22 4 f22, zVi r1_4 k23 4 f23]) hP hD [0, 1, 2, 3, 4, 5, 6, 7, 8, 9, 10, 11, 12, 13, 14, 15, 16, 17, 18, 19, 20, 21, 22, 23] (of_decide_eq_true rfl) rfl
              have hK9 := hK.sub (tys' := [(k4, .int), ((u_9 1), .int), ((u_9 3), .int), ((u_9 5), .int), ((u_9 7), .int), ((u_9 9), .int), (k10, .int), (k11, .int), (k13, .int), (k14, .int), (k15, .int), (k16, .int), (k17, .long), (k18, .int), (k20, .long), (k21, .long), (k22, .int), (k23, .int)]) [0, 18, 19, 20, 21, 22, 6, 7, 8, 9, 10, 11, 12, 13, 14, 15, 16, 17] rfl
              refine W.widen (k := 5) (n := 18432) (Nat.le_of_ble_eq_true rfl) (Nat.le_of_ble_eq_true rfl) ?_
              rw [← hQ]
              exact W.vret hx hb hr (fun t ht hW => ⟨⟨(fun k => ([(u_9 0), (u_9 1), (u_9 2), (u_9 3), (u_9 4), (u_9 5), (u_9 6), (u_9 7), (u_9 8), (u_9 9)] : List Nat).getD k 0), rfl, trivial, by rw [ht]; exact hP9, va_K.moved hW.alike hK9, hD9⟩, hS.F ht⟩) hS.2.2 dX1_searchAll_111
            have hfn := (if_neg c_12).symm.trans hfn
            refine lv_aload_n hx hb dX1_searchAll_63 rfl (lv_at hl 3 rfl) ?_
            refine lv_iload_n hx hb dX1_searchAll_64 rfl (lv_at hl 0 rfl) ?_
            refine lv_aload_n hx hb dX1_searchAll_65 rfl (lv_at hl 2 rfl) ?_
            refine va_get (D := (dC, dI)) (ci := 1) (v := .ref r0_1) (C := RX1) (T := TX1) (N := 14) hx hb hts zn_X1_searchAll_X1 hown hK hP 0 rfl rfl 1 (of_decide_eq_true rfl) (hts (.fieldLink RX1 18 "ShortEnough$FullSearch" "choice" "[I") zw_X1_searchAll_185) (fun _ h9 => h9) rfl dX1_searchAll_66 ?_
            obtain ⟨o_13, hqo_13, hfn⟩ := zb_s hfn
            refine zcSv (rest := []) (pc' := 72) (ws' := [zV1 h0 r0_0 r0_1 v0_2 o_3 (u_9 0) (u_9 2) s_11.2.1 s_11.2.2.1 s_11.2.2.2.1 v0_9 v0_10 (u_9 6) (u_9 4) (u_9 8), zV9 h1 v1_0 r1_1 r1_2 r1_3 r1_4 v1_5 r1_6 r1_7 r1_8, zV2 r1_7 v2_0 v2_1 v2_2 r2_3 r2_4 r2_5, zV4 r1_6 v3_0 v3_1 r3_2 r3_3 r3_4 r3_5 r3_6 r3_7 r3_8 r3_9, zVi r3_5 k4 14 f4, zVi (u_9 0) (u_9 1) o_7.2.1 s_11.2.2.2.2.2.2.1, zVi (u_9 2) (u_9 3) o_7.2.2.2.1 s_11.2.2.2.2.2.2.2.1, zVi (u_9 4) (u_9 5) o_7.2.2.2.2.2.1 o_7.2.2.2.2.1, zVi (u_9 6) (u_9 7) o_7.2.2.2.2.2.2.2.1 o_7.2.2.2.2.2.2.1, zVi (u_9 8) (u_9 9) o_7.2.2.2.2.2.2.2.2.2 o_7.2.2.2.2.2.2.2.2.1, zVi r2_4 k10 14 f10, zVi r0_1 k11 14 o_13, zV7 r0_0 r12_0 s_11.2.2.2.2.1 s_11.2.2.2.2.2.1, zVi r2_3 k13 14 f13, zVi r1_2 k14 4 f14, zVi r3_3 k15 14 f15, zVi r3_8 k16 28 f16, zVl r12_0 k17 14 s_11.2.2.2.2.2.2.2.2.2, zVi r3_9 k18 28 f18, zV6 r1_8 r19_0 r19_1 r19_2, zVl r19_0 k20 14 f20, zVl r19_1 k21 14 f21, zVi r1_3 k22 4 f22, zVi r1_4 k23 4 f23]) hP hK hD hS hA ⟨hx, hb, hml, hown, hts⟩ (zf_X1_unfold l dC dI h1 s_11.1 r0_1 v1_0 r1_1 r1_2 r1_3 r1_4 v1_5 r1_6 r1_7 r1_8 v2_0 v2_1 v2_2 r2_3 r2_4 r2_5 k10 f10 k11 s_11.2.2.2.2.2.2.2.2.1 o_13 hqo_13 H.size) (va_cwS 3 hts gX1_searchAll_X1_unfold rfl rfl rfl zhd_X1_unfold.2 ⟨Nat.le_of_ble_eq_true rfl, Nat.le_of_ble_eq_true rfl⟩) [1, 2, 10, 11] rfl (of_decide_eq_true rfl) [6, 7] rfl rfl hl.1 rfl (Nat.le_of_ble_eq_true rfl) dX1_searchAll_69 ⟨Nat.le_of_ble_eq_true rfl, Nat.le_of_ble_eq_true rfl⟩ [none, some 0, some 1, none, none, none, none, none, none, none, some 2, some 3] (of_decide_eq_true rfl) (of_decide_eq_true rfl) rfl rfl rfl (fun H locs hP hD hS => ?_)
            refine lv_aload_n hx hb dX1_searchAll_72 rfl (lv_at hl 2 rfl) ?_
            refine va_get (D := (dC, dI)) (ci := 1) (v := .ref r0_0) (C := RX1) (T := TX1) (N := 14) hx hb hts zn_X1_searchAll_X1 hown hK hP 0 rfl rfl 0 (of_decide_eq_true rfl) (hts (.fieldLink RX1 12 "ShortEnough$FullSearch" "reckoning" "LShortEnough$Reckoning;") zw_X1_searchAll_192) (fun _ h9 => h9) rfl dX1_searchAll_73 ?_
            refine lv_aload_n hx hb dX1_searchAll_76 rfl (lv_at hl 3 rfl) ?_
            refine lv_aload_n hx hb dX1_searchAll_77 rfl (lv_at hl 3 rfl) ?_
            refine va_get (D := (dC, dI)) (ci := 9) (v := .ref r1_8) (C := RX9) (T := TX9) (N := 9) hx hb hts zn_X1_searchAll_X9 hown hK hP 1 rfl rfl 8 (of_decide_eq_true rfl) (hts (.fieldLink RX1 97 "ShortEnough$Task" "ranges" "LShortEnough$Ranges;") zw_X1_searchAll_193) (fun _ h9 => h9) rfl dX1_searchAll_78 ?_
            refine lv_aload_n hx hb dX1_searchAll_81 rfl (lv_at hl 2 rfl) ?_
            refine va_get (D := (dC, dI)) (ci := 1) (v := .ref r0_1) (C := RX1) (T := TX1) (N := 14) hx hb hts zn_X1_searchAll_X1 hown hK hP 0 rfl rfl 1 (of_decide_eq_true rfl) (hts (.fieldLink RX1 18 "ShortEnough$FullSearch" "choice" "[I") zw_X1_searchAll_185) (fun _ h9 => h9) rfl dX1_searchAll_82 ?_
            obtain ⟨o_17, hqo_17, hfn⟩ := zb_s hfn
            refine zcNVb (ci := 7) (rest := []) (pc' := 88) (ws' := [zV1 h0 r0_0 r0_1 v0_2 o_3 (u_9 0) (u_9 2) s_11.2.1 s_11.2.2.1 s_11.2.2.2.1 v0_9 v0_10 (u_9 6) (u_9 4) (u_9 8), zV9 h1 v1_0 r1_1 r1_2 r1_3 r1_4 v1_5 r1_6 r1_7 r1_8, zV2 r1_7 v2_0 v2_1 v2_2 r2_3 r2_4 r2_5, zV4 r1_6 v3_0 v3_1 r3_2 r3_3 r3_4 r3_5 r3_6 r3_7 r3_8 r3_9, zVi r3_5 k4 14 f4, zVi (u_9 0) (u_9 1) o_7.2.1 s_11.2.2.2.2.2.2.1, zVi (u_9 2) (u_9 3) o_7.2.2.2.1 s_11.2.2.2.2.2.2.2.1, zVi (u_9 4) (u_9 5) o_7.2.2.2.2.2.1 o_7.2.2.2.2.1, zVi (u_9 6) (u_9 7) o_7.2.2.2.2.2.2.2.1 o_7.2.2.2.2.2.2.1, zVi (u_9 8) (u_9 9) o_7.2.2.2.2.2.2.2.2.2 o_7.2.2.2.2.2.2.2.2.1, zVi r2_4 k10 14 f10, zVi r0_1 k11 14 o_13, zV7 r0_0 r12_0 o_17.2.1 o_17.2.2.1, zVi r2_3 k13 14 f13, zVi r1_2 k14 4 f14, zVi r3_3 k15 14 f15, zVi r3_8 k16 28 f16, zVl r12_0 k17 14 o_17.2.2.2, zVi r3_9 k18 28 f18, zV6 r1_8 r19_0 r19_1 r19_2, zVl r19_0 k20 14 f20, zVl r19_1 k21 14 f21, zVi r1_3 k22 4 f22, zVi r1_4 k23 4 f23]) hP hK hD hS hA ⟨hx, hb, hml, hown, hts⟩ (zf_X7_reckon l dC dI r0_0 h1 r1_8 r0_1 r12_0 s_11.2.2.2.2.1 s_11.2.2.2.2.2.1 v1_0 r1_1 r1_2 r1_3 r1_4 v1_5 r1_6 r1_7 r1_8 v3_0 v3_1 r3_2 r3_3 r3_4 r3_5 r3_6 r3_7 r3_8 r3_9 v2_0 v2_1 v2_2 r2_3 r2_4 r2_5 k13 f13 k11 o_13 k14 f14 k15 f15 k16 f16 k17 s_11.2.2.2.2.2.2.2.2.2 k18 f18 r19_0 r19_1 r19_2 k20 f20 k21 f21 k22 f22 k4 f4 o_17 hqo_17 H.size) ⟨hn0, trivial⟩ (cwV 3 hts gX1_searchAll_X7_reckon rfl rfl rfl zhd_X7_reckon ⟨Nat.le_of_ble_eq_true rfl, Nat.le_of_ble_eq_true rfl⟩) [12, 1, 3, 2, 13, 11, 14, 15, 16, 17, 18, 19, 20, 21, 22, 4] rfl (of_decide_eq_true rfl) [8, 7, 9, 10, 11, 12, 13, 14, 15, 16, 0] rfl rfl rfl rfl hl.1 rfl (Nat.le_of_ble_eq_true rfl) dX1_searchAll_85 ⟨Nat.le_of_ble_eq_true rfl, Nat.le_of_ble_eq_true rfl⟩ [none, some 1, some 3, some 2, some 15, none, none, none, none, none, none, some 5, some 0, some 4, some 6, some 7, some 8, some 9, some 10, some 11, some 12, some 13, some 14] (of_decide_eq_true rfl) (of_decide_eq_true rfl) rfl rfl rfl (fun H locs hw_20n hP hD hS => ?_)
            refine lv_if_eq (tgt := 105) hx hb dX1_searchAll_88 (of_decide_eq_true rfl) (fun c_21 => ?_) (fun c_21 => ?_)
            · have hfn := (if_pos c_21).symm.trans hfn
              refine lv_iinc (v := (s_11.1 + 1)) (lv' := [(3, .int (s_11.1 + 1)), (2, .int s_1.1), (0, .ref h0), (1, .ref h1)]) hx hb dX1_searchAll_105 hl (k := 0) rfl rfl (of_decide_eq_true rfl) rfl (fun ls hl => ?_)
              refine lv_goto (tgt := 58) hx hb dX1_searchAll_108 (of_decide_eq_true rfl) ?_
              exact ih_11 ((s_11.1 + 1), s_11.2.1, s_11.2.2.1, s_11.2.2.2.1, o_17.2.1, o_17.2.2.1, s_11.2.2.2.2.2.2.1, s_11.2.2.2.2.2.2.2.1, o_13, o_17.2.2.2) H locs ls hfn hP hD hS (lv_sub hl [0, 1, 2, 3] rfl)
            have hfn := (if_neg c_21).symm.trans hfn
            refine lv_aload_n hx hb dX1_searchAll_91 rfl (lv_at hl 2 rfl) ?_
            refine lv_aload_n hx hb dX1_searchAll_92 rfl (lv_at hl 3 rfl) ?_
            refine lv_iload_n hx hb dX1_searchAll_93 rfl (lv_at hl 0 rfl) ?_
            refine lv_aload_n hx hb dX1_searchAll_94 rfl (lv_at hl 3 rfl) ?_
            refine lv_aload_n hx hb dX1_searchAll_95 rfl (lv_at hl 2 rfl) ?_
            refine va_get (D := (dC, dI)) (ci := 1) (v := .ref r0_1) (C := RX1) (T := TX1) (N := 14) hx hb hts zn_X1_searchAll_X1 hown hK hP 0 rfl rfl 1 (of_decide_eq_true rfl) (hts (.fieldLink RX1 18 "ShortEnough$FullSearch" "choice" "[I") zw_X1_searchAll_185) (fun _ h9 => h9) rfl dX1_searchAll_96 ?_
            obtain ⟨o_22, hqo_22, hfn⟩ := zb_s hfn
            refine zcVi (ci := 9) (rest := [.int s_11.1, .ref h1, .ref h0]) (pc' := 102) (ws' := [zV1 h0 r0_0 r0_1 v0_2 o_3 (u_9 0) (u_9 2) s_11.2.1 s_11.2.2.1 s_11.2.2.2.1 v0_9 v0_10 (u_9 6) (u_9 4) (u_9 8), zV9 h1 v1_0 r1_1 r1_2 r1_3 r1_4 v1_5 r1_6 r1_7 r1_8, zV2 r1_7 v2_0 v2_1 v2_2 r2_3 r2_4 r2_5, zV4 r1_6 v3_0 v3_1 r3_2 r3_3 r3_4 r3_5 r3_6 r3_7 r3_8 r3_9, zVi r3_5 k4 14 f4, zVi (u_9 0) (u_9 1) o_7.2.1 s_11.2.2.2.2.2.2.1, zVi (u_9 2) (u_9 3) o_7.2.2.2.1 s_11.2.2.2.2.2.2.2.1, zVi (u_9 4) (u_9 5) o_7.2.2.2.2.2.1 o_7.2.2.2.2.1, zVi (u_9 6) (u_9 7) o_7.2.2.2.2.2.2.2.1 o_7.2.2.2.2.2.2.1, zVi (u_9 8) (u_9 9) o_7.2.2.2.2.2.2.2.2.2 o_7.2.2.2.2.2.2.2.2.1, zVi r2_4 k10 14 f10, zVi r0_1 k11 14 o_13, zV7 r0_0 r12_0 o_17.2.1 o_17.2.2.1, zVi r2_3 k13 14 f13, zVi r1_2 k14 4 f14, zVi r3_3 k15 14 f15, zVi r3_8 k16 28 f16, zVl r12_0 k17 14 o_17.2.2.2, zVi r3_9 k18 28 f18, zV6 r1_8 r19_0 r19_1 r19_2, zVl r19_0 k20 14 f20, zVl r19_1 k21 14 f21, zVi r1_3 k22 4 f22, zVi r1_4 k23 4 f23]) hP hK hD hS hA ⟨hx, hb, hml, hown, hts⟩ (zf_X9_priceOf l dC dI h1 r0_1 v1_0 r1_1 r1_2 r1_3 r1_4 v1_5 r1_6 r1_7 r1_8 v3_0 v3_1 r3_2 r3_3 r3_4 r3_5 r3_6 r3_7 r3_8 r3_9 k16 f16 v2_0 v2_1 v2_2 r2_3 r2_4 r2_5 k13 f13 k11 o_13 k23 f23 o_22 hqo_22 H.size) (cwV 1 hts gX1_searchAll_X9_priceOf rfl rfl rfl zhd_X9_priceOf ⟨Nat.le_of_ble_eq_true rfl, Nat.le_of_ble_eq_true rfl⟩) [1, 3, 16, 2, 13, 11, 23] rfl (of_decide_eq_true rfl) [11, 8, 7, 17] rfl rfl rfl rfl hl.1 rfl (Nat.le_of_ble_eq_true rfl) dX1_searchAll_99 ⟨Nat.le_of_ble_eq_true rfl, Nat.le_of_ble_eq_true rfl⟩ [none, some 0, some 3, some 1, none, none, none, none, none, none, none, some 5, none, some 4, none, none, some 2, none, none, none, none, none, none, some 6] (of_decide_eq_true rfl) (of_decide_eq_true rfl) rfl rfl rfl (fun H locs hP hD hS => ?_)
            obtain ⟨o_26, hqo_26, hfn⟩ := zb_s hfn
            refine zcVv (ci := 1) (rest := []) (pc' := 105) (ws' := [zV1 h0 r0_0 r0_1 v0_2 o_3 (u_9 0) (u_9 2) o_26.1 o_26.2.1 o_26.2.2.1 v0_9 v0_10 (u_9 6) (u_9 4) (u_9 8), zV9 h1 v1_0 r1_1 r1_2 r1_3 r1_4 v1_5 r1_6 r1_7 r1_8, zV2 r1_7 v2_0 v2_1 v2_2 r2_3 r2_4 r2_5, zV4 r1_6 v3_0 v3_1 r3_2 r3_3 r3_4 r3_5 r3_6 r3_7 r3_8 r3_9, zVi r3_5 k4 14 f4, zVi (u_9 0) (u_9 1) o_7.2.1 o_26.2.2.2.1, zVi (u_9 2) (u_9 3) o_7.2.2.2.1 o_26.2.2.2.2, zVi (u_9 4) (u_9 5) o_7.2.2.2.2.2.1 o_7.2.2.2.2.1, zVi (u_9 6) (u_9 7) o_7.2.2.2.2.2.2.2.1 o_7.2.2.2.2.2.2.1, zVi (u_9 8) (u_9 9) o_7.2.2.2.2.2.2.2.2.2 o_7.2.2.2.2.2.2.2.2.1, zVi r2_4 k10 14 f10, zVi r0_1 k11 14 o_13, zV7 r0_0 r12_0 o_17.2.1 o_17.2.2.1, zVi r2_3 k13 14 f13, zVi r1_2 k14 4 f14, zVi r3_3 k15 14 f15, zVi r3_8 k16 28 f16, zVl r12_0 k17 14 o_17.2.2.2, zVi r3_9 k18 28 f18, zV6 r1_8 r19_0 r19_1 r19_2, zVl r19_0 k20 14 f20, zVl r19_1 k21 14 f21, zVi r1_3 k22 4 f22, zVi r1_4 k23 4 f23]) hP hK hD hS hA ⟨hx, hb, hml, hown, hts⟩ (zf_X1_keep l dC dI h0 h1 s_11.1 o_22 r0_0 r0_1 v0_2 o_3 (u_9 0) (u_9 2) s_11.2.1 s_11.2.2.1 s_11.2.2.2.1 v0_9 v0_10 (u_9 6) (u_9 4) (u_9 8) (u_9 1) o_7.2.1 s_11.2.2.2.2.2.2.1 v1_0 r1_1 r1_2 r1_3 r1_4 v1_5 r1_6 r1_7 r1_8 v3_0 v3_1 r3_2 r3_3 r3_4 r3_5 r3_6 r3_7 r3_8 r3_9 k4 f4 (u_9 3) o_7.2.2.2.1 s_11.2.2.2.2.2.2.2.1 r12_0 o_17.2.1 o_17.2.2.1 k17 o_17.2.2.2 o_26 hqo_26 H.size) (cwV 3 hts gX1_searchAll_X1_keep rfl rfl rfl zhd_X1_keep ⟨Nat.le_of_ble_eq_true rfl, Nat.le_of_ble_eq_true rfl⟩) [0, 5, 1, 3, 4, 6, 12, 17] rfl (of_decide_eq_true rfl) [18, 0, 19, 12] rfl rfl rfl rfl hl.1 rfl (Nat.le_of_ble_eq_true rfl) dX1_searchAll_102 ⟨Nat.le_of_ble_eq_true rfl, Nat.le_of_ble_eq_true rfl⟩ [some 0, some 2, none, some 3, some 4, some 1, some 5, none, none, none, none, none, some 6, none, none, none, none, some 7] (of_decide_eq_true rfl) (of_decide_eq_true rfl) rfl rfl rfl (fun H locs hP hD hS => ?_)
            refine lv_iinc (v := (s_11.1 + 1)) (lv' := [(3, .int (s_11.1 + 1)), (2, .int s_1.1), (0, .ref h0), (1, .ref h1)]) hx hb dX1_searchAll_105 hl (k := 0) rfl rfl (of_decide_eq_true rfl) rfl (fun ls hl => ?_)
            refine lv_goto (tgt := 58) hx hb dX1_searchAll_108 (of_decide_eq_true rfl) ?_
            exact ih_11 ((s_11.1 + 1), o_26.1, o_26.2.1, o_26.2.2.1, o_17.2.1, o_17.2.2.1, o_26.2.2.2.1, o_26.2.2.2.2, o_13, o_17.2.2.2) H locs ls hfn hP hD hS (lv_sub hl [0, 1, 2, 3] rfl)
        exact lp_11 _ (0, v0_6, v0_7, v0_8, v12_1, v12_2, o_7.1, o_7.2.2.1, f11, f17) H locs ls hfn hP hD hS (lv_sub hl [0, 1, 2, 3] rfl)
      refine lv_icmp_ge (tgt := 33) hx hb dX1_searchAll_12 (of_decide_eq_true rfl) (fun c_30 => ?_) (fun c_30 => ?_)
      · have hfn := (if_pos c_30).symm.trans hfn
        exact jp_2 () H locs ls hfn hP hD hS (lv_sub hl [1, 2, 3] rfl)
      have hfn := (if_neg c_30).symm.trans hfn
      refine lv_iload_n hx hb dX1_searchAll_15 rfl (lv_at hl 0 rfl) ?_
      refine lv_iconst (v := 5) hx hb dX1_searchAll_16 zci_5 ?_
      refine lv_icmp_ge (tgt := 33) hx hb dX1_searchAll_17 (of_decide_eq_true rfl) (fun c_31 => ?_) (fun c_31 => ?_)
      · have hfn := (if_pos c_31).symm.trans hfn
        exact jp_2 () H locs ls hfn hP hD hS (lv_sub hl [1, 2, 3] rfl)
      have hfn := (if_neg c_31).symm.trans hfn
      refine lv_iload_n hx hb dX1_searchAll_20 rfl (lv_at hl 1 rfl) ?_
      refine lv_aload_n hx hb dX1_searchAll_21 rfl (lv_at hl 3 rfl) ?_
      refine va_get (D := (dC, dI)) (ci := 9) (v := .int v1_0) (C := RX9) (T := TX9) (N := 9) hx hb hts zn_X1_searchAll_X9 hown hK hP 1 rfl rfl 0 (of_decide_eq_true rfl) (hts (.fieldLink RX1 79 "ShortEnough$Task" "formats" "I") zw_X1_searchAll_168) (fun _ h9 => h9) rfl dX1_searchAll_22 ?_
      refine lv_imul hx hb dX1_searchAll_25 ?_
      refine lv_istore_n (lv' := [(2, .int (s_1.1 * v1_0)), (3, .int s_1.2), (0, .ref h0), (1, .ref h1)]) hx hb dX1_searchAll_26 rfl hl (of_decide_eq_true rfl) rfl (fun ls hl => ?_)
      refine lv_iinc (v := (s_1.2 + 1)) (lv' := [(3, .int (s_1.2 + 1)), (2, .int (s_1.1 * v1_0)), (0, .ref h0), (1, .ref h1)]) hx hb dX1_searchAll_27 hl (k := 1) rfl rfl (of_decide_eq_true rfl) rfl (fun ls hl => ?_)
      refine lv_goto (tgt := 4) hx hb dX1_searchAll_30 (of_decide_eq_true rfl) ?_
      exact ih_1 ((s_1.1 * v1_0), (s_1.2 + 1)) H locs ls hfn hP hD hS (lv_sub hl [0, 1, 2, 3] rfl)
  exact lp_1 _ (1, 0) s.heap [] ls hfn hP hD hS (lv_sub hl [0, 1, 2, 3] rfl)
theorem zn_X1_search_X9 : ∀ w ∈ wsX90, w ∈ wsX1_search := fun _ h => List.mem_cons_of_mem _ (List.mem_append_left _ (List.mem_append_left _ (List.mem_append_left _ (List.mem_append_left _ (List.mem_append_left _ (List.mem_append_right _ h))))))
theorem zw_X1_search_147 : Cond.fieldLink RX1 48 "ShortEnough$Task" "numbers" "LShortEnough$Numbers;" ∈ wsX1_search := List.mem_of_getElem? (i := 1) (by decide +kernel)
theorem zn_X1_search_X4 : ∀ w ∈ wsX40, w ∈ wsX1_search := fun _ h => List.mem_cons_of_mem _ (List.mem_append_left _ (List.mem_append_left _ (List.mem_append_left _ (List.mem_append_left _ (List.mem_append_right _ h)))))
theorem zw_X1_search_149 : Cond.fieldLink RX1 54 "ShortEnough$Numbers" "count" "I" ∈ wsX1_search := List.mem_of_getElem? (i := 2) (by decide +kernel)
theorem zw_X1_search_150 : Cond.fieldLink RX1 59 "ShortEnough$Task" "groups" "LShortEnough$Groups;" ∈ wsX1_search := List.mem_of_getElem? (i := 3) (by decide +kernel)
theorem zn_X1_search_X2 : ∀ w ∈ wsX20, w ∈ wsX1_search := fun _ h => List.mem_cons_of_mem _ (List.mem_append_left _ (List.mem_append_left _ (List.mem_append_left _ (List.mem_append_right _ h))))
theorem zw_X1_search_152 : Cond.fieldLink RX1 63 "ShortEnough$Groups" "free" "I" ∈ wsX1_search := List.mem_of_getElem? (i := 4) (by decide +kernel)
theorem zn_X1_search_X1 : ∀ w ∈ wsX10, w ∈ wsX1_search := fun _ h => List.mem_cons_of_mem _ (List.mem_append_left _ (List.mem_append_left _ (List.mem_append_right _ h)))
theorem zw_X1_search_154 : Cond.fieldLink RX1 44 "ShortEnough$FullSearch" "ready" "Z" ∈ wsX1_search := List.mem_of_getElem? (i := 5) (by decide +kernel)
theorem zw_X1_search_155 : Cond.fieldLink RX1 68 "ShortEnough$FullSearch" "many" "I" ∈ wsX1_search := List.mem_of_getElem? (i := 6) (by decide +kernel)
theorem zw_X1_search_156 : Cond.fieldLink RX1 28 "ShortEnough$FullSearch" "best" "I" ∈ wsX1_search := List.mem_of_getElem? (i := 7) (by decide +kernel)
set_option maxHeartbeats 4000000 in
set_option maxRecDepth 100000 in
theorem zf_X1_search (l : Launch) (dC : Nat → ClassId) (dI : Nat → Nat → Nat) (h0 : Nat) (h1 : Nat) (r0_0 : Nat) (r0_1 : Nat) (v0_2 : Int32) (v0_3 : Int32) (r0_4 : Nat) (r0_5 : Nat) (v0_6 : Int32) (v0_7 : Int32) (v0_8 : Int32) (v0_9 : Int32) (v0_10 : Int32) (r0_11 : Nat) (r0_12 : Nat) (r0_13 : Nat) (v1_0 : Int32) (r1_1 : Nat) (r1_2 : Nat) (r1_3 : Nat) (r1_4 : Nat) (v1_5 : Int32) (r1_6 : Nat) (r1_7 : Nat) (r1_8 : Nat) (v2_0 : Int32) (v2_1 : Int32) (r2_2 : Nat) (r2_3 : Nat) (r2_4 : Nat) (r2_5 : Nat) (r2_6 : Nat) (r2_7 : Nat) (r2_8 : Nat) (r2_9 : Nat) (v3_0 : Int32) (v3_1 : Int32) (v3_2 : Int32) (r3_3 : Nat) (r3_4 : Nat) (r3_5 : Nat) (k4 : Nat) (f4 : Nat → Int32) (k5 : Nat) (n5 : Nat) (f5 : Nat → Int32) (k6 : Nat) (n6 : Nat) (f6 : Nat → Int32) (k7 : Nat) (n7 : Nat) (f7 : Nat → Int32) (k8 : Nat) (n8 : Nat) (f8 : Nat → Int32) (k9 : Nat) (n9 : Nat) (f9 : Nat → Int32) (k10 : Nat) (f10 : Nat → Int32) (k11 : Nat) (f11 : Nat → Int32) (r12_0 : Nat) (v12_1 : Int32) (v12_2 : Int32) (k13 : Nat) (f13 : Nat → Int32) (k14 : Nat) (f14 : Nat → Int32) (k15 : Nat) (f15 : Nat → Int32) (k16 : Nat) (f16 : Nat → Int32) (k17 : Nat) (f17 : Nat → Int64) (k18 : Nat) (f18 : Nat → Int32) (r19_0 : Nat) (r19_1 : Nat) (r19_2 : Nat) (k20 : Nat) (f20 : Nat → Int64) (k21 : Nat) (f21 : Nat → Int64) (k22 : Nat) (f22 : Nat → Int32) (k23 : Nat) (f23 : Nat → Int32) (o : Int32 × Int32 × Int32 × Int32 × Int32 × Int32 × (Nat → Int32) × Nat × (Nat → Int32) × Nat × (Nat → Int32) × Nat × (Nat → Int32) × Nat × (Nat → Int32) × Nat × (Nat → Int32) × Int32 × Int32 × (Nat → Int64)) (hfn : fn_X1_search v0_2 v0_3 v0_6 v0_7 v0_8 v1_0 v1_5 v2_0 v3_0 v3_1 v3_2 f4 n5 f5 n6 f6 n7 f7 n8 f8 n9 f9 f10 f11 v12_1 v12_2 f13 f14 f15 f16 f17 f18 f20 f21 f22 f23 = some o) (sz : Nat) : Met l yX1_search wsX1_search ({ frames := 5, cells := 5, slots := 18432, locals := 148 }) (va_Pc [.ref h0, .ref h1] (fun U => va_Nw (.methodLinkNest RX7 90 yX11_divides RX11) U ∧ U.heap.size = sz ∧ va_P (dC, dI) vwCl [zV1 h0 r0_0 r0_1 v0_2 v0_3 r0_4 r0_5 v0_6 v0_7 v0_8 v0_9 v0_10 r0_11 r0_12 r0_13, zV9 h1 v1_0 r1_1 r1_2 r1_3 r1_4 v1_5 r1_6 r1_7 r1_8, zV4 r1_6 v2_0 v2_1 r2_2 r2_3 r2_4 r2_5 r2_6 r2_7 r2_8 r2_9, zV2 r1_7 v3_0 v3_1 v3_2 r3_3 r3_4 r3_5, zVi r2_5 k4 14 f4, zVi r0_4 k5 n5 f5, zVi r0_5 k6 n6 f6, zVi r0_12 k7 n7 f7, zVi r0_11 k8 n8 f8, zVi r0_13 k9 n9 f9, zVi r3_4 k10 14 f10, zVi r0_1 k11 14 f11, zV7 r0_0 r12_0 v12_1 v12_2, zVi r3_3 k13 14 f13, zVi r1_2 k14 4 f14, zVi r2_3 k15 14 f15, zVi r2_8 k16 28 f16, zVl r12_0 k17 14 f17, zVi r2_9 k18 28 f18, zV6 r1_8 r19_0 r19_1 r19_2, zVl r19_0 k20 14 f20, zVl r19_1 k21 14 f21, zVi r1_3 k22 4 f22, zVi r1_4 k23 4 f23] U.heap ∧ va_K (dC, dI) vwCl [(k4, .int), (k5, .int), (k6, .int), (k7, .int), (k8, .int), (k9, .int), (k10, .int), (k11, .int), (k13, .int), (k14, .int), (k15, .int), (k16, .int), (k17, .long), (k18, .int), (k20, .long), (k21, .long), (k22, .int), (k23, .int)] U ∧ va_D (fun _ => True) [zV1 h0 r0_0 r0_1 v0_2 v0_3 r0_4 r0_5 v0_6 v0_7 v0_8 v0_9 v0_10 r0_11 r0_12 r0_13, zV9 h1 v1_0 r1_1 r1_2 r1_3 r1_4 v1_5 r1_6 r1_7 r1_8, zV4 r1_6 v2_0 v2_1 r2_2 r2_3 r2_4 r2_5 r2_6 r2_7 r2_8 r2_9, zV2 r1_7 v3_0 v3_1 v3_2 r3_3 r3_4 r3_5, zVi r2_5 k4 14 f4, zVi r0_4 k5 n5 f5, zVi r0_5 k6 n6 f6, zVi r0_12 k7 n7 f7, zVi r0_11 k8 n8 f8, zVi r0_13 k9 n9 f9, zVi r3_4 k10 14 f10, zVi r0_1 k11 14 f11, zV7 r0_0 r12_0 v12_1 v12_2, zVi r3_3 k13 14 f13, zVi r1_2 k14 4 f14, zVi r2_3 k15 14 f15, zVi r2_8 k16 28 f16, zVl r12_0 k17 14 f17, zVi r2_9 k18 28 f18, zV6 r1_8 r19_0 r19_1 r19_2, zVl r19_0 k20 14 f20, zVl r19_1 k21 14 f21, zVi r1_3 k22 4 f22, zVi r1_4 k23 4 f23])) (va_Qi (fun (r : Int32) (u : Nat → Nat) => r = o.1 ∧ narrow .boolean (.int o.1) = .int o.1) (fun u t => va_P (dC, dI) vwCl [zV1 h0 r0_0 r0_1 o.2.1 o.2.2.1 (u 0) (u 2) o.2.2.2.1 o.2.2.2.2.1 o.2.2.2.2.2.1 v0_9 v0_10 (u 6) (u 4) (u 8), zV9 h1 v1_0 r1_1 r1_2 r1_3 r1_4 v1_5 r1_6 r1_7 r1_8, zV4 r1_6 v2_0 v2_1 r2_2 r2_3 r2_4 r2_5 r2_6 r2_7 r2_8 r2_9, zV2 r1_7 v3_0 v3_1 v3_2 r3_3 r3_4 r3_5, zVi r2_5 k4 14 f4, zVi (u 0) (u 1) o.2.2.2.2.2.2.2.1 o.2.2.2.2.2.2.1, zVi (u 2) (u 3) o.2.2.2.2.2.2.2.2.2.1 o.2.2.2.2.2.2.2.2.1, zVi (u 4) (u 5) o.2.2.2.2.2.2.2.2.2.2.2.1 o.2.2.2.2.2.2.2.2.2.2.1, zVi (u 6) (u 7) o.2.2.2.2.2.2.2.2.2.2.2.2.2.1 o.2.2.2.2.2.2.2.2.2.2.2.2.1, zVi (u 8) (u 9) o.2.2.2.2.2.2.2.2.2.2.2.2.2.2.2.1 o.2.2.2.2.2.2.2.2.2.2.2.2.2.2.1, zVi r3_4 k10 14 f10, zVi r0_1 k11 14 o.2.2.2.2.2.2.2.2.2.2.2.2.2.2.2.2.1, zV7 r0_0 r12_0 o.2.2.2.2.2.2.2.2.2.2.2.2.2.2.2.2.2.1 o.2.2.2.2.2.2.2.2.2.2.2.2.2.2.2.2.2.2.1, zVi r3_3 k13 14 f13, zVi r1_2 k14 4 f14, zVi r2_3 k15 14 f15, zVi r2_8 k16 28 f16, zVl r12_0 k17 14 o.2.2.2.2.2.2.2.2.2.2.2.2.2.2.2.2.2.2.2, zVi r2_9 k18 28 f18, zV6 r1_8 r19_0 r19_1 r19_2, zVl r19_0 k20 14 f20, zVl r19_1 k21 14 f21, zVi r1_3 k22 4 f22, zVi r1_4 k23 4 f23] t.heap ∧ va_K (dC, dI) vwCl [(k4, .int), ((u 1), .int), ((u 3), .int), ((u 5), .int), ((u 7), .int), ((u 9), .int), (k10, .int), (k11, .int), (k13, .int), (k14, .int), (k15, .int), (k16, .int), (k17, .long), (k18, .int), (k20, .long), (k21, .long), (k22, .int), (k23, .int)] t ∧ va_D (va_A [zV1 h0 r0_0 r0_1 v0_2 v0_3 r0_4 r0_5 v0_6 v0_7 v0_8 v0_9 v0_10 r0_11 r0_12 r0_13, zV9 h1 v1_0 r1_1 r1_2 r1_3 r1_4 v1_5 r1_6 r1_7 r1_8, zV4 r1_6 v2_0 v2_1 r2_2 r2_3 r2_4 r2_5 r2_6 r2_7 r2_8 r2_9, zV2 r1_7 v3_0 v3_1 v3_2 r3_3 r3_4 r3_5, zVi r2_5 k4 14 f4, zVi r0_4 k5 n5 f5, zVi r0_5 k6 n6 f6, zVi r0_12 k7 n7 f7, zVi r0_11 k8 n8 f8, zVi r0_13 k9 n9 f9, zVi r3_4 k10 14 f10, zVi r0_1 k11 14 f11, zV7 r0_0 r12_0 v12_1 v12_2, zVi r3_3 k13 14 f13, zVi r1_2 k14 4 f14, zVi r2_3 k15 14 f15, zVi r2_8 k16 28 f16, zVl r12_0 k17 14 f17, zVi r2_9 k18 28 f18, zV6 r1_8 r19_0 r19_1 r19_2, zVl r19_0 k20 14 f20, zVl r19_1 k21 14 f21, zVi r1_3 k22 4 f22, zVi r1_4 k23 4 f23] sz) [zV1 h0 r0_0 r0_1 o.2.1 o.2.2.1 (u 0) (u 2) o.2.2.2.1 o.2.2.2.2.1 o.2.2.2.2.2.1 v0_9 v0_10 (u 6) (u 4) (u 8), zV9 h1 v1_0 r1_1 r1_2 r1_3 r1_4 v1_5 r1_6 r1_7 r1_8, zV4 r1_6 v2_0 v2_1 r2_2 r2_3 r2_4 r2_5 r2_6 r2_7 r2_8 r2_9, zV2 r1_7 v3_0 v3_1 v3_2 r3_3 r3_4 r3_5, zVi r2_5 k4 14 f4, zVi (u 0) (u 1) o.2.2.2.2.2.2.2.1 o.2.2.2.2.2.2.1, zVi (u 2) (u 3) o.2.2.2.2.2.2.2.2.2.1 o.2.2.2.2.2.2.2.2.1, zVi (u 4) (u 5) o.2.2.2.2.2.2.2.2.2.2.2.1 o.2.2.2.2.2.2.2.2.2.2.1, zVi (u 6) (u 7) o.2.2.2.2.2.2.2.2.2.2.2.2.2.1 o.2.2.2.2.2.2.2.2.2.2.2.2.1, zVi (u 8) (u 9) o.2.2.2.2.2.2.2.2.2.2.2.2.2.2.2.1 o.2.2.2.2.2.2.2.2.2.2.2.2.2.2.1, zVi r3_4 k10 14 f10, zVi r0_1 k11 14 o.2.2.2.2.2.2.2.2.2.2.2.2.2.2.2.2.1, zV7 r0_0 r12_0 o.2.2.2.2.2.2.2.2.2.2.2.2.2.2.2.2.2.1 o.2.2.2.2.2.2.2.2.2.2.2.2.2.2.2.2.2.2.1, zVi r3_3 k13 14 f13, zVi r1_2 k14 4 f14, zVi r2_3 k15 14 f15, zVi r2_8 k16 28 f16, zVl r12_0 k17 14 o.2.2.2.2.2.2.2.2.2.2.2.2.2.2.2.2.2.2.2, zVi r2_9 k18 28 f18, zV6 r1_8 r19_0 r19_1 r19_2, zVl r19_0 k20 14 f20, zVl r19_1 k21 14 f21, zVi r1_3 k22 4 f22, zVi r1_4 k23 4 f23]) (va_A [zV1 h0 r0_0 r0_1 v0_2 v0_3 r0_4 r0_5 v0_6 v0_7 v0_8 v0_9 v0_10 r0_11 r0_12 r0_13, zV9 h1 v1_0 r1_1 r1_2 r1_3 r1_4 v1_5 r1_6 r1_7 r1_8, zV4 r1_6 v2_0 v2_1 r2_2 r2_3 r2_4 r2_5 r2_6 r2_7 r2_8 r2_9, zV2 r1_7 v3_0 v3_1 v3_2 r3_3 r3_4 r3_5, zVi r2_5 k4 14 f4, zVi r0_4 k5 n5 f5, zVi r0_5 k6 n6 f6, zVi r0_12 k7 n7 f7, zVi r0_11 k8 n8 f8, zVi r0_13 k9 n9 f9, zVi r3_4 k10 14 f10, zVi r0_1 k11 14 f11, zV7 r0_0 r12_0 v12_1 v12_2, zVi r3_3 k13 14 f13, zVi r1_2 k14 4 f14, zVi r2_3 k15 14 f15, zVi r2_8 k16 28 f16, zVl r12_0 k17 14 f17, zVi r2_9 k18 28 f18, zV6 r1_8 r19_0 r19_1 r19_2, zVl r19_0 k20 14 f20, zVl r19_1 k21 14 f21, zVi r1_3 k22 4 f22, zVi r1_4 k23 4 f23] sz)) (zc v0_2 o.2.1 5) (zc v0_2 o.2.1 18432) (va_A [zV1 h0 r0_0 r0_1 v0_2 v0_3 r0_4 r0_5 v0_6 v0_7 v0_8 v0_9 v0_10 r0_11 r0_12 r0_13, zV9 h1 v1_0 r1_1 r1_2 r1_3 r1_4 v1_5 r1_6 r1_7 r1_8, zV4 r1_6 v2_0 v2_1 r2_2 r2_3 r2_4 r2_5 r2_6 r2_7 r2_8 r2_9, zV2 r1_7 v3_0 v3_1 v3_2 r3_3 r3_4 r3_5, zVi r2_5 k4 14 f4, zVi r0_4 k5 n5 f5, zVi r0_5 k6 n6 f6, zVi r0_12 k7 n7 f7, zVi r0_11 k8 n8 f8, zVi r0_13 k9 n9 f9, zVi r3_4 k10 14 f10, zVi r0_1 k11 14 f11, zV7 r0_0 r12_0 v12_1 v12_2, zVi r3_3 k13 14 f13, zVi r1_2 k14 4 f14, zVi r2_3 k15 14 f15, zVi r2_8 k16 28 f16, zVl r12_0 k17 14 f17, zVi r2_9 k18 28 f18, zV6 r1_8 r19_0 r19_1 r19_2, zVl r19_0 k20 14 f20, zVl r19_1 k21 14 f21, zVi r1_3 k22 4 f22, zVi r1_4 k23 4 f23] sz) := by
  refine Met.ofW (cc := cX1_search) (maxL := 2) (ret := (some .boolean)) (by decide +kernel) rfl ?_
  intro p e s m args below meth c s₁ B hml hv
  obtain ⟨rfl, hn0, hsz, hP, hK, hD0⟩ := hv
  have hx := B.exec
  have hb := B.bytes
  have hr := B.returns
  have hts := atoms_spec (ws := wsX1_search) B.pre
  have hown : s.vm.findClass RX1 = some m.cls := (findClass_of_methodNamed B.named :)
  have hlocks := B.notSynchronized
  subst hsz
  have hD := hD0.self (sz := s.heap.size)
  generalize hAe : va_A [zV1 h0 r0_0 r0_1 v0_2 v0_3 r0_4 r0_5 v0_6 v0_7 v0_8 v0_9 v0_10 r0_11 r0_12 r0_13, zV9 h1 v1_0 r1_1 r1_2 r1_3 r1_4 v1_5 r1_6 r1_7 r1_8, zV4 r1_6 v2_0 v2_1 r2_2 r2_3 r2_4 r2_5 r2_6 r2_7 r2_8 r2_9, zV2 r1_7 v3_0 v3_1 v3_2 r3_3 r3_4 r3_5, zVi r2_5 k4 14 f4, zVi r0_4 k5 n5 f5, zVi r0_5 k6 n6 f6, zVi r0_12 k7 n7 f7, zVi r0_11 k8 n8 f8, zVi r0_13 k9 n9 f9, zVi r3_4 k10 14 f10, zVi r0_1 k11 14 f11, zV7 r0_0 r12_0 v12_1 v12_2, zVi r3_3 k13 14 f13, zVi r1_2 k14 4 f14, zVi r2_3 k15 14 f15, zVi r2_8 k16 28 f16, zVl r12_0 k17 14 f17, zVi r2_9 k18 28 f18, zV6 r1_8 r19_0 r19_1 r19_2, zVl r19_0 k20 14 f20, zVl r19_1 k21 14 f21, zVi r1_3 k22 4 f22, zVi r1_4 k23 4 f23] s.heap.size = A at hD ⊢
  have hA : ∀ q : Nat, s.heap.size ≤ q → A q := fun q h => by rw [← hAe]; exact Or.inr h
  have hS : va_S A s.heap s.heap [] := va_S.rf
  have hP : va_P (dC, dI) vwCl [zV1 h0 r0_0 r0_1 v0_2 v0_3 r0_4 r0_5 v0_6 v0_7 v0_8 v0_9 v0_10 r0_11 r0_12 r0_13, zV9 h1 v1_0 r1_1 r1_2 r1_3 r1_4 v1_5 r1_6 r1_7 r1_8, zV4 r1_6 v2_0 v2_1 r2_2 r2_3 r2_4 r2_5 r2_6 r2_7 r2_8 r2_9, zV2 r1_7 v3_0 v3_1 v3_2 r3_3 r3_4 r3_5, zVi r2_5 k4 14 f4, zVi r0_4 k5 n5 f5, zVi r0_5 k6 n6 f6, zVi r0_12 k7 n7 f7, zVi r0_11 k8 n8 f8, zVi r0_13 k9 n9 f9, zVi r3_4 k10 14 f10, zVi r0_1 k11 14 f11, zV7 r0_0 r12_0 v12_1 v12_2, zVi r3_3 k13 14 f13, zVi r1_2 k14 4 f14, zVi r2_3 k15 14 f15, zVi r2_8 k16 28 f16, zVl r12_0 k17 14 f17, zVi r2_9 k18 28 f18, zV6 r1_8 r19_0 r19_1 r19_2, zVl r19_0 k20 14 f20, zVl r19_1 k21 14 f21, zVi r1_3 k22 4 f22, zVi r1_4 k23 4 f23] s.heap := hP
  have hl := lv_entry ([.ref h0, .ref h1]) (n := 2) (Nat.le_of_ble_eq_true rfl)
  rw [lg_entry_eq]
  generalize (lg_sl ([.ref h0, .ref h1]) ++ List.replicate (2 - (lg_sl ([.ref h0, .ref h1])).length) Slot.unset).toArray = ls at hl ⊢
  have hl : lv_has ls 2 [(0, .ref h0), (1, .ref h1)] := hl
  refine zQ (fun Q hQ => ?_)
  unfold fn_X1_search at hfn
  refine lv_aload_n hx hb dX1_search_0 rfl (lv_at hl 1 rfl) ?_
  refine va_get (D := (dC, dI)) (ci := 9) (v := .ref r1_6) (C := RX9) (T := TX9) (N := 9) hx hb hts zn_X1_search_X9 hown hK hP 1 rfl rfl 6 (of_decide_eq_true rfl) (hts (.fieldLink RX1 48 "ShortEnough$Task" "numbers" "LShortEnough$Numbers;") zw_X1_search_147) (fun _ h9 => h9) rfl dX1_search_1 ?_
  refine va_get (D := (dC, dI)) (ci := 4) (v := .int v2_0) (C := RX4) (T := TX4) (N := 10) hx hb hts zn_X1_search_X4 hown hK hP 2 rfl rfl 0 (of_decide_eq_true rfl) (hts (.fieldLink RX1 54 "ShortEnough$Numbers" "count" "I") zw_X1_search_149) (fun _ h9 => h9) rfl dX1_search_4 ?_
  refine lv_if_eq (tgt := 21) hx hb dX1_search_7 (of_decide_eq_true rfl) (fun c_1 => ?_) (fun c_1 => ?_)
  · have hfn := (if_pos c_1).symm.trans hfn
    refine lv_iconst (v := 0) hx hb dX1_search_21 zci_0 ?_
    have ho := Option.some.inj hfn
    subst ho
    obtain ⟨hP9, hD9⟩ := zPD (ws' := [zV1 h0 r0_0 r0_1 v0_2 v0_3 r0_4 r0_5 v0_6 v0_7 v0_8 v0_9 v0_10 r0_11 r0_12 r0_13, zV9 h1 v1_0 r1_1 r1_2 r1_3 r1_4 v1_5 r1_6 r1_7 r1_8, zV4 r1_6 v2_0 v2_1 r2_2 r2_3 r2_4 r2_5 r2_6 r2_7 r2_8 r2_9, zV2 r1_7 v3_0 v3_1 v3_2 r3_3 r3_4 r3_5, zVi r2_5 k4 14 f4, zVi r0_4 k5 n5 f5, zVi r0_5 k6 n6 f6, zVi r0_12 k7 n7 f7, zVi r0_11 k8 n8 f8, zVi r0_13 k9 n9 f9, zVi r3_4 k10 14 f10, zVi r0_1 k11 14 f11, zV7 r0_0 r12_0 v12_1 v12_2, zVi r3_3 k13 14 f13, zVi r1_2 k14 4 f14, zVi r2_3 k15 14 f15, zVi r2_8 k16 28 f16, zVl r12_0 k17 14 f17, zVi r2_9 k18 28 f18, zV6 r1_8 r19_0 r19_1 r19_2, zVl r19_0 k20 14 f20, zVl r19_1 k21 14 f21, zVi r1_3 k22 4 f22, zVi r1_4 k23 4 f23]) hP hD [0, 1, 2, 3, 4, 5, 6, 7, 8, 9, 10, 11, 12, 13, 14, 15, 16, 17, 18, 19, 20, 21, 22, 23] (of_decide_eq_true rfl) rfl
    have hK9 := hK.sub (tys' := [(k4, .int), (k5, .int), (k6, .int), (k7, .int), (k8, .int), (k9, .int), (k10, .int), (k11, .int), (k13, .int), (k14, .int), (k15, .int), (k16, .int), (k17, .long), (k18, .int), (k20, .long), (k21, .long), (k22, .int), (k23, .int)]) [0, 1, 2, 3, 4, 5, 6, 7, 8, 9, 10, 11, 12, 13, 14, 15, 16, 17] rfl
    refine W.widen (k := zc v0_2 v0_2 5) (n := zc v0_2 v0_2 18432) (Nat.zero_le _) (Nat.zero_le _) ?_
    rw [← hQ]
    exact W.zret (v := 0) hx hb hr rfl (fun t ht hW => ⟨⟨0, (fun k => ([r0_4, k5, r0_5, k6, r0_12, k7, r0_11, k8, r0_13, k9] : List Nat).getD k 0), rfl, ⟨rfl, zB0⟩, by rw [ht]; exact hP9, va_K.moved hW.alike hK9, hD9⟩, hS.F ht⟩) hS.2.2 dX1_search_22
  have hfn := (if_neg c_1).symm.trans hfn
  refine lv_aload_n hx hb dX1_search_10 rfl (lv_at hl 1 rfl) ?_
  refine va_get (D := (dC, dI)) (ci := 9) (v := .ref r1_7) (C := RX9) (T := TX9) (N := 9) hx hb hts zn_X1_search_X9 hown hK hP 1 rfl rfl 7 (of_decide_eq_true rfl) (hts (.fieldLink RX1 59 "ShortEnough$Task" "groups" "LShortEnough$Groups;") zw_X1_search_150) (fun _ h9 => h9) rfl dX1_search_11 ?_
  refine va_get (D := (dC, dI)) (ci := 2) (v := .int v3_1) (C := RX2) (T := TX2) (N := 6) hx hb hts zn_X1_search_X2 hown hK hP 3 rfl rfl 1 (of_decide_eq_true rfl) (hts (.fieldLink RX1 63 "ShortEnough$Groups" "free" "I") zw_X1_search_152) (fun _ h9 => h9) rfl dX1_search_14 ?_
  refine lv_iconst (v := 5) hx hb dX1_search_17 zci_5 ?_
  refine lv_icmp_le (tgt := 23) hx hb dX1_search_18 (of_decide_eq_true rfl) (fun c_2 => ?_) (fun c_2 => ?_)
  · have hfn := (if_pos c_2).symm.trans hfn
    refine lv_aload_n hx hb dX1_search_23 rfl (lv_at hl 0 rfl) ?_
    refine va_get (D := (dC, dI)) (ci := 1) (v := .int v0_2) (C := RX1) (T := TX1) (N := 14) hx hb hts zn_X1_search_X1 hown hK hP 0 rfl rfl 2 (of_decide_eq_true rfl) (hts (.fieldLink RX1 44 "ShortEnough$FullSearch" "ready" "Z") zw_X1_search_154) (fun _ h9 => h9) rfl dX1_search_24 ?_
    refine lv_if_ne (tgt := 57) hx hb dX1_search_27 (of_decide_eq_true rfl) (fun c_3 => ?_) (fun c_3 => ?_)
    · have hfn := (if_neg c_3).symm.trans hfn
      refine lv_iconst (v := 1) hx hb dX1_search_57 zci_1 ?_
      have ho := Option.some.inj hfn
      subst ho
      obtain ⟨hP9, hD9⟩ := zPD (ws' := [zV1 h0 r0_0 r0_1 v0_2 v0_3 r0_4 r0_5 v0_6 v0_7 v0_8 v0_9 v0_10 r0_11 r0_12 r0_13, zV9 h1 v1_0 r1_1 r1_2 r1_3 r1_4 v1_5 r1_6 r1_7 r1_8, zV4 r1_6 v2_0 v2_1 r2_2 r2_3 r2_4 r2_5 r2_6 r2_7 r2_8 r2_9, zV2 r1_7 v3_0 v3_1 v3_2 r3_3 r3_4 r3_5, zVi r2_5 k4 14 f4, zVi r0_4 k5 n5 f5, zVi r0_5 k6 n6 f6, zVi r0_12 k7 n7 f7, zVi r0_11 k8 n8 f8, zVi r0_13 k9 n9 f9, zVi r3_4 k10 14 f10, zVi r0_1 k11 14 f11, zV7 r0_0 r12_0 v12_1 v12_2, zVi r3_3 k13 14 f13, zVi r1_2 k14 4 f14, zVi r2_3 k15 14 f15, zVi r2_8 k16 28 f16, zVl r12_0 k17 14 f17, zVi r2_9 k18 28 f18, zV6 r1_8 r19_0 r19_1 r19_2, zVl r19_0 k20 14 f20, zVl r19_1 k21 14 f21, zVi r1_3 k22 4 f22, zVi r1_4 k23 4 f23]) hP hD [0, 1, 2, 3, 4, 5, 6, 7, 8, 9, 10, 11, 12, 13, 14, 15, 16, 17, 18, 19, 20, 21, 22, 23] (of_decide_eq_true rfl) rfl
      have hK9 := hK.sub (tys' := [(k4, .int), (k5, .int), (k6, .int), (k7, .int), (k8, .int), (k9, .int), (k10, .int), (k11, .int), (k13, .int), (k14, .int), (k15, .int), (k16, .int), (k17, .long), (k18, .int), (k20, .long), (k21, .long), (k22, .int), (k23, .int)]) [0, 1, 2, 3, 4, 5, 6, 7, 8, 9, 10, 11, 12, 13, 14, 15, 16, 17] rfl
      refine W.widen (k := zc v0_2 v0_2 5) (n := zc v0_2 v0_2 18432) (Nat.zero_le _) (Nat.zero_le _) ?_
      rw [← hQ]
      exact W.zret (v := 1) hx hb hr rfl (fun t ht hW => ⟨⟨1, (fun k => ([r0_4, k5, r0_5, k6, r0_12, k7, r0_11, k8, r0_13, k9] : List Nat).getD k 0), rfl, ⟨rfl, zB1⟩, by rw [ht]; exact hP9, va_K.moved hW.alike hK9, hD9⟩, hS.F ht⟩) hS.2.2 dX1_search_58
    have hfn := (if_pos c_3).symm.trans hfn
    refine lv_aload_n hx hb dX1_search_30 rfl (lv_at hl 0 rfl) ?_
    refine lv_iconst (v := 1) hx hb dX1_search_31 zci_1 ?_
    refine va_put (D := (dC, dI)) (ci := 1) (v := .int 1) (ty := .boolean) (C := RX1) (T := TX1) (N := 14) hx hb hts zn_X1_search_X1 tyX1 tyX1_ok nmX1 hown hK hP hD hS 0 rfl rfl 2 (of_decide_eq_true rfl) (hts (.fieldLink RX1 44 "ShortEnough$FullSearch" "ready" "Z") zw_X1_search_154) (fun _ h9 => h9) rfl (tyX1_ok 2 (of_decide_eq_true rfl)) rfl rfl (Nat.le_of_ble_eq_true rfl) dX1_search_32 (fun H locs hP hD hS => ?_)
    have hP : va_P (dC, dI) vwCl [zV1 h0 r0_0 r0_1 1 v0_3 r0_4 r0_5 v0_6 v0_7 v0_8 v0_9 v0_10 r0_11 r0_12 r0_13, zV9 h1 v1_0 r1_1 r1_2 r1_3 r1_4 v1_5 r1_6 r1_7 r1_8, zV4 r1_6 v2_0 v2_1 r2_2 r2_3 r2_4 r2_5 r2_6 r2_7 r2_8 r2_9, zV2 r1_7 v3_0 v3_1 v3_2 r3_3 r3_4 r3_5, zVi r2_5 k4 14 f4, zVi r0_4 k5 n5 f5, zVi r0_5 k6 n6 f6, zVi r0_12 k7 n7 f7, zVi r0_11 k8 n8 f8, zVi r0_13 k9 n9 f9, zVi r3_4 k10 14 f10, zVi r0_1 k11 14 f11, zV7 r0_0 r12_0 v12_1 v12_2, zVi r3_3 k13 14 f13, zVi r1_2 k14 4 f14, zVi r2_3 k15 14 f15, zVi r2_8 k16 28 f16, zVl r12_0 k17 14 f17, zVi r2_9 k18 28 f18, zV6 r1_8 r19_0 r19_1 r19_2, zVl r19_0 k20 14 f20, zVl r19_1 k21 14 f21, zVi r1_3 k22 4 f22, zVi r1_4 k23 4 f23] H := hP
    have hD := zDW hD hP rfl
    refine lv_aload_n hx hb dX1_search_35 rfl (lv_at hl 0 rfl) ?_
    refine lv_iconst (v := 0) hx hb dX1_search_36 zci_0 ?_
    refine va_put (D := (dC, dI)) (ci := 1) (v := .int 0) (ty := .int) (C := RX1) (T := TX1) (N := 14) hx hb hts zn_X1_search_X1 tyX1 tyX1_ok nmX1 hown hK hP hD hS 0 rfl rfl 6 (of_decide_eq_true rfl) (hts (.fieldLink RX1 68 "ShortEnough$FullSearch" "many" "I") zw_X1_search_155) (fun _ h9 => h9) rfl (tyX1_ok 6 (of_decide_eq_true rfl)) rfl rfl (Nat.le_of_ble_eq_true rfl) dX1_search_37 (fun H locs hP hD hS => ?_)
    have hP : va_P (dC, dI) vwCl [zV1 h0 r0_0 r0_1 1 v0_3 r0_4 r0_5 0 v0_7 v0_8 v0_9 v0_10 r0_11 r0_12 r0_13, zV9 h1 v1_0 r1_1 r1_2 r1_3 r1_4 v1_5 r1_6 r1_7 r1_8, zV4 r1_6 v2_0 v2_1 r2_2 r2_3 r2_4 r2_5 r2_6 r2_7 r2_8 r2_9, zV2 r1_7 v3_0 v3_1 v3_2 r3_3 r3_4 r3_5, zVi r2_5 k4 14 f4, zVi r0_4 k5 n5 f5, zVi r0_5 k6 n6 f6, zVi r0_12 k7 n7 f7, zVi r0_11 k8 n8 f8, zVi r0_13 k9 n9 f9, zVi r3_4 k10 14 f10, zVi r0_1 k11 14 f11, zV7 r0_0 r12_0 v12_1 v12_2, zVi r3_3 k13 14 f13, zVi r1_2 k14 4 f14, zVi r2_3 k15 14 f15, zVi r2_8 k16 28 f16, zVl r12_0 k17 14 f17, zVi r2_9 k18 28 f18, zV6 r1_8 r19_0 r19_1 r19_2, zVl r19_0 k20 14 f20, zVl r19_1 k21 14 f21, zVi r1_3 k22 4 f22, zVi r1_4 k23 4 f23] H := hP
    have hD := zDW hD hP rfl
    refine lv_aload_n hx hb dX1_search_40 rfl (lv_at hl 0 rfl) ?_
    refine lv_iconst (v := (-1)) hx hb dX1_search_41 zci_m1 ?_
    refine va_put (D := (dC, dI)) (ci := 1) (v := .int (-1)) (ty := .int) (C := RX1) (T := TX1) (N := 14) hx hb hts zn_X1_search_X1 tyX1 tyX1_ok nmX1 hown hK hP hD hS 0 rfl rfl 7 (of_decide_eq_true rfl) (hts (.fieldLink RX1 28 "ShortEnough$FullSearch" "best" "I") zw_X1_search_156) (fun _ h9 => h9) rfl (tyX1_ok 7 (of_decide_eq_true rfl)) rfl rfl (Nat.le_of_ble_eq_true rfl) dX1_search_42 (fun H locs hP hD hS => ?_)
    have hP : va_P (dC, dI) vwCl [zV1 h0 r0_0 r0_1 1 v0_3 r0_4 r0_5 0 (-1) v0_8 v0_9 v0_10 r0_11 r0_12 r0_13, zV9 h1 v1_0 r1_1 r1_2 r1_3 r1_4 v1_5 r1_6 r1_7 r1_8, zV4 r1_6 v2_0 v2_1 r2_2 r2_3 r2_4 r2_5 r2_6 r2_7 r2_8 r2_9, zV2 r1_7 v3_0 v3_1 v3_2 r3_3 r3_4 r3_5, zVi r2_5 k4 14 f4, zVi r0_4 k5 n5 f5, zVi r0_5 k6 n6 f6, zVi r0_12 k7 n7 f7, zVi r0_11 k8 n8 f8, zVi r0_13 k9 n9 f9, zVi r3_4 k10 14 f10, zVi r0_1 k11 14 f11, zV7 r0_0 r12_0 v12_1 v12_2, zVi r3_3 k13 14 f13, zVi r1_2 k14 4 f14, zVi r2_3 k15 14 f15, zVi r2_8 k16 28 f16, zVl r12_0 k17 14 f17, zVi r2_9 k18 28 f18, zV6 r1_8 r19_0 r19_1 r19_2, zVl r19_0 k20 14 f20, zVl r19_1 k21 14 f21, zVi r1_3 k22 4 f22, zVi r1_4 k23 4 f23] H := hP
    have hD := zDW hD hP rfl
    refine lv_aload_n hx hb dX1_search_45 rfl (lv_at hl 1 rfl) ?_
    obtain ⟨o_4, hqo_4, hfn⟩ := zb_s hfn
    refine zcVb (ci := 9) (rest := []) (pc' := 49) (ws' := [zV1 h0 r0_0 r0_1 1 v0_3 r0_4 r0_5 0 (-1) v0_8 v0_9 v0_10 r0_11 r0_12 r0_13, zV9 h1 v1_0 r1_1 r1_2 r1_3 r1_4 v1_5 r1_6 r1_7 r1_8, zV4 r1_6 v2_0 v2_1 r2_2 r2_3 r2_4 r2_5 r2_6 r2_7 r2_8 r2_9, zV2 r1_7 v3_0 v3_1 v3_2 r3_3 r3_4 r3_5, zVi r2_5 k4 14 f4, zVi r0_4 k5 n5 f5, zVi r0_5 k6 n6 f6, zVi r0_12 k7 n7 f7, zVi r0_11 k8 n8 f8, zVi r0_13 k9 n9 f9, zVi r3_4 k10 14 f10, zVi r0_1 k11 14 f11, zV7 r0_0 r12_0 v12_1 v12_2, zVi r3_3 k13 14 f13, zVi r1_2 k14 4 f14, zVi r2_3 k15 14 f15, zVi r2_8 k16 28 f16, zVl r12_0 k17 14 f17, zVi r2_9 k18 28 f18, zV6 r1_8 r19_0 r19_1 r19_2, zVl r19_0 k20 14 f20, zVl r19_1 k21 14 f21, zVi r1_3 k22 4 f22, zVi r1_4 k23 4 f23]) hP hK hD hS hA ⟨hx, hb, hml, hown, hts⟩ (zf_X9_hasChoice l dC dI h1 v1_0 r1_1 r1_2 r1_3 r1_4 v1_5 r1_6 r1_7 r1_8 v2_0 v2_1 r2_2 r2_3 r2_4 r2_5 r2_6 r2_7 r2_8 r2_9 v3_0 v3_1 v3_2 r3_3 r3_4 r3_5 o_4 hqo_4 H.size) (cwV 0 hts gX1_search_X9_hasChoice rfl rfl rfl zhd_X9_hasChoice ⟨Nat.le_of_ble_eq_true rfl, Nat.le_of_ble_eq_true rfl⟩) [1, 2, 3] rfl (of_decide_eq_true rfl) [] rfl rfl rfl rfl hl.1 rfl (Nat.le_of_ble_eq_true rfl) dX1_search_46 ⟨Nat.le_of_ble_eq_true rfl, Nat.le_of_ble_eq_true rfl⟩ [none, some 0, some 1, some 2] (of_decide_eq_true rfl) (of_decide_eq_true rfl) rfl rfl rfl (fun H locs hw_7n hP hD hS => ?_)
    refine lv_if_eq (tgt := 57) hx hb dX1_search_49 (of_decide_eq_true rfl) (fun c_8 => ?_) (fun c_8 => ?_)
    · have hfn := (if_pos c_8).symm.trans hfn
      refine lv_iconst (v := 1) hx hb dX1_search_57 zci_1 ?_
      have ho := Option.some.inj hfn
      subst ho
      obtain ⟨hP9, hD9⟩ := zPD (ws' := [zV1 h0 r0_0 r0_1 1 v0_3 r0_4 r0_5 0 (-1) v0_8 v0_9 v0_10 r0_11 r0_12 r0_13, zV9 h1 v1_0 r1_1 r1_2 r1_3 r1_4 v1_5 r1_6 r1_7 r1_8, zV4 r1_6 v2_0 v2_1 r2_2 r2_3 r2_4 r2_5 r2_6 r2_7 r2_8 r2_9, zV2 r1_7 v3_0 v3_1 v3_2 r3_3 r3_4 r3_5, zVi r2_5 k4 14 f4, zVi r0_4 k5 n5 f5, zVi r0_5 k6 n6 f6, zVi r0_12 k7 n7 f7, zVi r0_11 k8 n8 f8, zVi r0_13 k9 n9 f9, zVi r3_4 k10 14 f10, zVi r0_1 k11 14 f11, zV7 r0_0 r12_0 v12_1 v12_2, zVi r3_3 k13 14 f13, zVi r1_2 k14 4 f14, zVi r2_3 k15 14 f15, zVi r2_8 k16 28 f16, zVl r12_0 k17 14 f17, zVi r2_9 k18 28 f18, zV6 r1_8 r19_0 r19_1 r19_2, zVl r19_0 k20 14 f20, zVl r19_1 k21 14 f21, zVi r1_3 k22 4 f22, zVi r1_4 k23 4 f23]) hP hD [0, 1, 2, 3, 4, 5, 6, 7, 8, 9, 10, 11, 12, 13, 14, 15, 16, 17, 18, 19, 20, 21, 22, 23] (of_decide_eq_true rfl) rfl
      have hK9 := hK.sub (tys' := [(k4, .int), (k5, .int), (k6, .int), (k7, .int), (k8, .int), (k9, .int), (k10, .int), (k11, .int), (k13, .int), (k14, .int), (k15, .int), (k16, .int), (k17, .long), (k18, .int), (k20, .long), (k21, .long), (k22, .int), (k23, .int)]) [0, 1, 2, 3, 4, 5, 6, 7, 8, 9, 10, 11, 12, 13, 14, 15, 16, 17] rfl
      refine W.widen (k := zc v0_2 (1 : Int32) 5) (n := zc v0_2 (1 : Int32) 18432) (Nat.zero_le _) (Nat.zero_le _) ?_
      rw [← hQ]
      exact W.zret (v := 1) hx hb hr rfl (fun t ht hW => ⟨⟨1, (fun k => ([r0_4, k5, r0_5, k6, r0_12, k7, r0_11, k8, r0_13, k9] : List Nat).getD k 0), rfl, ⟨rfl, zB1⟩, by rw [ht]; exact hP9, va_K.moved hW.alike hK9, hD9⟩, hS.F ht⟩) hS.2.2 dX1_search_58
    have hfn := (if_neg c_8).symm.trans hfn
    refine lv_aload_n hx hb dX1_search_52 rfl (lv_at hl 0 rfl) ?_
    refine lv_aload_n hx hb dX1_search_53 rfl (lv_at hl 1 rfl) ?_
    obtain ⟨o_9, hqo_9, hfn⟩ := zb_s hfn
    have hC := zC hP [0, 1, 3, 2, 4, 5, 6, 7, 8, 9, 10, 11, 12, 13, 14, 15, 16, 17, 18, 19, 20, 21, 22, 23] (wc := [zV1 h0 r0_0 r0_1 1 v0_3 r0_4 r0_5 0 (-1) v0_8 v0_9 v0_10 r0_11 r0_12 r0_13, zV9 h1 v1_0 r1_1 r1_2 r1_3 r1_4 v1_5 r1_6 r1_7 r1_8, zV2 r1_7 v3_0 v3_1 v3_2 r3_3 r3_4 r3_5, zV4 r1_6 v2_0 v2_1 r2_2 r2_3 r2_4 r2_5 r2_6 r2_7 r2_8 r2_9, zVi r2_5 k4 14 f4, zVi r0_4 k5 n5 f5, zVi r0_5 k6 n6 f6, zVi r0_12 k7 n7 f7, zVi r0_11 k8 n8 f8, zVi r0_13 k9 n9 f9, zVi r3_4 k10 14 f10, zVi r0_1 k11 14 f11, zV7 r0_0 r12_0 v12_1 v12_2, zVi r3_3 k13 14 f13, zVi r1_2 k14 4 f14, zVi r2_3 k15 14 f15, zVi r2_8 k16 28 f16, zVl r12_0 k17 14 f17, zVi r2_9 k18 28 f18, zV6 r1_8 r19_0 r19_1 r19_2, zVl r19_0 k20 14 f20, zVl r19_1 k21 14 f21, zVi r1_3 k22 4 f22, zVi r1_4 k23 4 f23]) rfl
    have hPc := hP.sub [0, 1, 3, 2, 4, 5, 6, 7, 8, 9, 10, 11, 12, 13, 14, 15, 16, 17, 18, 19, 20, 21, 22, 23] (zfm hC)
    have hDc := hD.sub [0, 1, 3, 2, 4, 5, 6, 7, 8, 9, 10, 11, 12, 13, 14, 15, 16, 17, 18, 19, 20, 21, 22, 23] (of_decide_eq_true rfl) hC
    have hKc := hK.sub (tys' := [(k4, .int), (k5, .int), (k6, .int), (k7, .int), (k8, .int), (k9, .int), (k10, .int), (k11, .int), (k13, .int), (k14, .int), (k15, .int), (k16, .int), (k17, .long), (k18, .int), (k20, .long), (k21, .long), (k22, .int), (k23, .int)]) [0, 1, 2, 3, 4, 5, 6, 7, 8, 9, 10, 11, 12, 13, 14, 15, 16, 17] rfl
    have hFc := va_free hD hS hA [0, 1, 3, 2, 4, 5, 6, 7, 8, 9, 10, 11, 12, 13, 14, 15, 16, 17, 18, 19, 20, 21, 22, 23] hC
    refine va_callv (va_runV (As := [.ref h1]) (rest := []) ⟨hx, hb, hml, hown, hts⟩ (zf_X1_searchAll l dC dI h0 h1 r0_0 r0_1 1 v0_3 r0_4 r0_5 0 (-1) v0_8 v0_9 v0_10 r0_11 r0_12 r0_13 v1_0 r1_1 r1_2 r1_3 r1_4 v1_5 r1_6 r1_7 r1_8 v3_0 v3_1 v3_2 r3_3 r3_4 r3_5 v2_0 v2_1 r2_2 r2_3 r2_4 r2_5 r2_6 r2_7 r2_8 r2_9 k4 f4 k5 n5 f5 k6 n6 f6 k7 n7 f7 k8 n8 f8 k9 n9 f9 k10 f10 k11 f11 r12_0 v12_1 v12_2 k13 f13 k14 f14 k15 f15 k16 f16 k17 f17 k18 f18 r19_0 r19_1 r19_2 k20 f20 k21 f21 k22 f22 k23 f23 o_9 hqo_9 H.size) (cwV 1 hts gX1_search_X1_searchAll rfl rfl rfl zhd_X1_searchAll ⟨Nat.le_of_ble_eq_true rfl, Nat.le_of_ble_eq_true rfl⟩) ⟨fun a U g mk q => by obtain ⟨q0, n0, q1, qP, qK, qD⟩ := q; exact ⟨q0, va_Nw.same rfl rfl n0, q1, qP, va_K.moved (u := U) (U := U.calling g mk a) (Vm.Alike.refl U.vm) qK, qD⟩, zrecv hKc hPc (ci := 1) (q0 := 0) rfl rfl, fun U hU hW => ⟨rfl, va_Nw.warmM hW hn0, by rw [hU], by rw [hU]; exact hPc, va_K.moved hW.alike hKc, hDc.weaken (fun _ _ _ _ => trivial)⟩⟩ rfl rfl hl.1 rfl (lv_room (Nat.le_of_ble_eq_true rfl)) dX1_search_54 ⟨Nat.le_of_ble_eq_true rfl, Nat.le_of_ble_eq_true rfl⟩) hS (fun q _ h => hFc q h) hFc (fun u_11 t H1 locs ht hvm hw_12 hB hz1 hk1 hS => ?_)
    obtain ⟨hP1, hK1, hD1⟩ := hB
    rw [ht] at hP1
    have hK1 := va_K.moved hvm.symm hK1
    obtain ⟨hP, hD⟩ := zjn (ws' := [zV1 h0 r0_0 r0_1 1 o_9.1 (u_11 0) (u_11 2) o_9.2.1 o_9.2.2.1 o_9.2.2.2.1 v0_9 v0_10 (u_11 6) (u_11 4) (u_11 8), zV9 h1 v1_0 r1_1 r1_2 r1_3 r1_4 v1_5 r1_6 r1_7 r1_8, zV4 r1_6 v2_0 v2_1 r2_2 r2_3 r2_4 r2_5 r2_6 r2_7 r2_8 r2_9, zV2 r1_7 v3_0 v3_1 v3_2 r3_3 r3_4 r3_5, zVi r2_5 k4 14 f4, zVi (u_11 0) (u_11 1) o_9.2.2.2.2.2.1 o_9.2.2.2.2.1, zVi (u_11 2) (u_11 3) o_9.2.2.2.2.2.2.2.1 o_9.2.2.2.2.2.2.1, zVi (u_11 4) (u_11 5) o_9.2.2.2.2.2.2.2.2.2.1 o_9.2.2.2.2.2.2.2.2.1, zVi (u_11 6) (u_11 7) o_9.2.2.2.2.2.2.2.2.2.2.2.1 o_9.2.2.2.2.2.2.2.2.2.2.1, zVi (u_11 8) (u_11 9) o_9.2.2.2.2.2.2.2.2.2.2.2.2.2.1 o_9.2.2.2.2.2.2.2.2.2.2.2.2.1, zVi r3_4 k10 14 f10, zVi r0_1 k11 14 o_9.2.2.2.2.2.2.2.2.2.2.2.2.2.2.1, zV7 r0_0 r12_0 o_9.2.2.2.2.2.2.2.2.2.2.2.2.2.2.2.1 o_9.2.2.2.2.2.2.2.2.2.2.2.2.2.2.2.2.1, zVi r3_3 k13 14 f13, zVi r1_2 k14 4 f14, zVi r2_3 k15 14 f15, zVi r2_8 k16 28 f16, zVl r12_0 k17 14 o_9.2.2.2.2.2.2.2.2.2.2.2.2.2.2.2.2.2, zVi r2_9 k18 28 f18, zV6 r1_8 r19_0 r19_1 r19_2, zVl r19_0 k20 14 f20, zVl r19_1 k21 14 f21, zVi r1_3 k22 4 f22, zVi r1_4 k23 4 f23]) hP hD [0, 1, 3, 2, 4, 5, 6, 7, 8, 9, 10, 11, 12, 13, 14, 15, 16, 17, 18, 19, 20, 21, 22, 23] hC hk1 hFc hP1 hD1 [some 0, some 1, some 3, some 2, some 4, some 5, some 6, some 7, some 8, some 9, some 10, some 11, some 12, some 13, some 14, some 15, some 16, some 17, some 18, some 19, some 20, some 21, some 22, some 23] (of_decide_eq_true rfl) (of_decide_eq_true rfl) rfl rfl
    have hK := hK.app hK1
    generalize H1 = H at hP hS ⊢
    have hK : va_K (dC, dI) vwCl [(k4, .int), (k5, .int), (k6, .int), (k7, .int), (k8, .int), (k9, .int), (k10, .int), (k11, .int), (k13, .int), (k14, .int), (k15, .int), (k16, .int), (k17, .long), (k18, .int), (k20, .long), (k21, .long), (k22, .int), (k23, .int), (k4, .int), ((u_11 1), .int), ((u_11 3), .int), ((u_11 5), .int), ((u_11 7), .int), ((u_11 9), .int), (k10, .int), (k11, .int), (k13, .int), (k14, .int), (k15, .int), (k16, .int), (k17, .long), (k18, .int), (k20, .long), (k21, .long), (k22, .int), (k23, .int)] s := hK
    refine lv_iconst (v := 1) hx hb dX1_search_57 zci_1 ?_
    have ho := Option.some.inj hfn
    subst ho
    obtain ⟨hP9, hD9⟩ := zPD (ws' := [zV1 h0 r0_0 r0_1 1 o_9.1 (u_11 0) (u_11 2) o_9.2.1 o_9.2.2.1 o_9.2.2.2.1 v0_9 v0_10 (u_11 6) (u_11 4) (u_11 8), zV9 h1 v1_0 r1_1 r1_2 r1_3 r1_4 v1_5 r1_6 r1_7 r1_8, zV4 r1_6 v2_0 v2_1 r2_2 r2_3 r2_4 r2_5 r2_6 r2_7 r2_8 r2_9, zV2 r1_7 v3_0 v3_1 v3_2 r3_3 r3_4 r3_5, zVi r2_5 k4 14 f4, zVi (u_11 0) (u_11 1) o_9.2.2.2.2.2.1 o_9.2.2.2.2.1, zVi (u_11 2) (u_11 3) o_9.2.2.2.2.2.2.2.1 o_9.2.2.2.2.2.2.1, zVi (u_11 4) (u_11 5) o_9.2.2.2.2.2.2.2.2.2.1 o_9.2.2.2.2.2.2.2.2.1, zVi (u_11 6) (u_11 7) o_9.2.2.2.2.2.2.2.2.2.2.2.1 o_9.2.2.2.2.2.2.2.2.2.2.1, zVi (u_11 8) (u_11 9) o_9.2.2.2.2.2.2.2.2.2.2.2.2.2.1 o_9.2.2.2.2.2.2.2.2.2.2.2.2.1, zVi r3_4 k10 14 f10, zVi r0_1 k11 14 o_9.2.2.2.2.2.2.2.2.2.2.2.2.2.2.1, zV7 r0_0 r12_0 o_9.2.2.2.2.2.2.2.2.2.2.2.2.2.2.2.1 o_9.2.2.2.2.2.2.2.2.2.2.2.2.2.2.2.2.1, zVi r3_3 k13 14 f13, zVi r1_2 k14 4 f14, zVi r2_3 k15 14 f15, zVi r2_8 k16 28 f16, zVl r12_0 k17 14 o_9.2.2.2.2.2.2.2.2.2.2.2.2.2.2.2.2.2, zVi r2_9 k18 28 f18, zV6 r1_8 r19_0 r19_1 r19_2, zVl r19_0 k20 14 f20, zVl r19_1 k21 14 f21, zVi r1_3 k22 4 f22, zVi r1_4 k23 4 f23]) hP hD [0, 1, 2, 3, 4, 5, 6, 7, 8, 9, 10, 11, 12, 13, 14, 15, 16, 17, 18, 19, 20, 21, 22, 23] (of_decide_eq_true rfl) rfl
    have hK9 := hK.sub (tys' := [(k4, .int), ((u_11 1), .int), ((u_11 3), .int), ((u_11 5), .int), ((u_11 7), .int), ((u_11 9), .int), (k10, .int), (k11, .int), (k13, .int), (k14, .int), (k15, .int), (k16, .int), (k17, .long), (k18, .int), (k20, .long), (k21, .long), (k22, .int), (k23, .int)]) [0, 19, 20, 21, 22, 23, 6, 7, 8, 9, 10, 11, 12, 13, 14, 15, 16, 17] rfl
    refine W.widen (k := zc v0_2 (1 : Int32) 5) (n := zc v0_2 (1 : Int32) 18432) (zc_le c_3 5) (zc_le c_3 18432) ?_
    rw [← hQ]
    exact W.zret (v := 1) hx hb hr rfl (fun t ht hW => ⟨⟨1, (fun k => ([(u_11 0), (u_11 1), (u_11 2), (u_11 3), (u_11 4), (u_11 5), (u_11 6), (u_11 7), (u_11 8), (u_11 9)] : List Nat).getD k 0), rfl, ⟨rfl, zB1⟩, by rw [ht]; exact hP9, va_K.moved hW.alike hK9, hD9⟩, hS.F ht⟩) hS.2.2 dX1_search_58
  have hfn := (if_neg c_2).symm.trans hfn
  refine lv_iconst (v := 0) hx hb dX1_search_21 zci_0 ?_
  have ho := Option.some.inj hfn
  subst ho
  obtain ⟨hP9, hD9⟩ := zPD (ws' := [zV1 h0 r0_0 r0_1 v0_2 v0_3 r0_4 r0_5 v0_6 v0_7 v0_8 v0_9 v0_10 r0_11 r0_12 r0_13, zV9 h1 v1_0 r1_1 r1_2 r1_3 r1_4 v1_5 r1_6 r1_7 r1_8, zV4 r1_6 v2_0 v2_1 r2_2 r2_3 r2_4 r2_5 r2_6 r2_7 r2_8 r2_9, zV2 r1_7 v3_0 v3_1 v3_2 r3_3 r3_4 r3_5, zVi r2_5 k4 14 f4, zVi r0_4 k5 n5 f5, zVi r0_5 k6 n6 f6, zVi r0_12 k7 n7 f7, zVi r0_11 k8 n8 f8, zVi r0_13 k9 n9 f9, zVi r3_4 k10 14 f10, zVi r0_1 k11 14 f11, zV7 r0_0 r12_0 v12_1 v12_2, zVi r3_3 k13 14 f13, zVi r1_2 k14 4 f14, zVi r2_3 k15 14 f15, zVi r2_8 k16 28 f16, zVl r12_0 k17 14 f17, zVi r2_9 k18 28 f18, zV6 r1_8 r19_0 r19_1 r19_2, zVl r19_0 k20 14 f20, zVl r19_1 k21 14 f21, zVi r1_3 k22 4 f22, zVi r1_4 k23 4 f23]) hP hD [0, 1, 2, 3, 4, 5, 6, 7, 8, 9, 10, 11, 12, 13, 14, 15, 16, 17, 18, 19, 20, 21, 22, 23] (of_decide_eq_true rfl) rfl
  have hK9 := hK.sub (tys' := [(k4, .int), (k5, .int), (k6, .int), (k7, .int), (k8, .int), (k9, .int), (k10, .int), (k11, .int), (k13, .int), (k14, .int), (k15, .int), (k16, .int), (k17, .long), (k18, .int), (k20, .long), (k21, .long), (k22, .int), (k23, .int)]) [0, 1, 2, 3, 4, 5, 6, 7, 8, 9, 10, 11, 12, 13, 14, 15, 16, 17] rfl
  refine W.widen (k := zc v0_2 v0_2 5) (n := zc v0_2 v0_2 18432) (Nat.zero_le _) (Nat.zero_le _) ?_
  rw [← hQ]
  exact W.zret (v := 0) hx hb hr rfl (fun t ht hW => ⟨⟨0, (fun k => ([r0_4, k5, r0_5, k6, r0_12, k7, r0_11, k8, r0_13, k9] : List Nat).getD k 0), rfl, ⟨rfl, zB0⟩, by rw [ht]; exact hP9, va_K.moved hW.alike hK9, hD9⟩, hS.F ht⟩) hS.2.2 dX1_search_22
theorem zn_X1_errorAt_X1 : ∀ w ∈ wsX10, w ∈ wsX1_errorAt := fun _ h => List.mem_cons_of_mem _ (List.mem_append_right _ h)
theorem zw_X1_errorAt_228 : Cond.fieldLink RX1 86 "ShortEnough$FullSearch" "answers" "I" ∈ wsX1_errorAt := List.mem_of_getElem? (i := 1) (by decide +kernel)
theorem zw_X1_errorAt_229 : Cond.constant RX1 127 (1000001) ∈ wsX1_errorAt := List.mem_of_getElem? (i := 3) (by decide +kernel)
theorem zw_X1_errorAt_230 : Cond.fieldLink RX1 25 "ShortEnough$FullSearch" "errors" "[I" ∈ wsX1_errorAt := List.mem_of_getElem? (i := 2) (by decide +kernel)
set_option maxHeartbeats 4000000 in
set_option maxRecDepth 100000 in
theorem zf_X1_errorAt (l : Launch) (dC : Nat → ClassId) (dI : Nat → Nat → Nat) (h0 : Nat) (p1 : Int32) (p2 : Int32) (r0_0 : Nat) (r0_1 : Nat) (v0_2 : Int32) (v0_3 : Int32) (r0_4 : Nat) (r0_5 : Nat) (v0_6 : Int32) (v0_7 : Int32) (v0_8 : Int32) (v0_9 : Int32) (v0_10 : Int32) (r0_11 : Nat) (r0_12 : Nat) (r0_13 : Nat) (k1 : Nat) (n1 : Nat) (f1 : Nat → Int32) (o : Int32) (hfn : fn_X1_errorAt p1 p2 v0_3 n1 f1 = some o) (sz : Nat) : zMi l yX1_errorAt wsX1_errorAt ({ frames := 0, cells := 0, slots := 0, locals := 0 }) (dC, dI) vwCl [.ref h0, .int p1, .int p2] [zV1 h0 r0_0 r0_1 v0_2 v0_3 r0_4 r0_5 v0_6 v0_7 v0_8 v0_9 v0_10 r0_11 r0_12 r0_13, zVi r0_5 k1 n1 f1] [(k1, .int)] (fun r _ => r = o) [zV1 h0 r0_0 r0_1 v0_2 v0_3 r0_4 r0_5 v0_6 v0_7 v0_8 v0_9 v0_10 r0_11 r0_12 r0_13, zVi r0_5 k1 n1 f1] [(k1, .int)] sz := by
  refine zgoi (cc := cX1_errorAt) (maxL := 4) (ret := (some .int)) (C0 := RX1) (lv0 := [(0, .ref h0), (1, .int p1), (2, .int p2)]) zpl_X1 rfl rfl rfl (Nat.le_of_ble_eq_true rfl) ?_
  intro p e s m below meth c A ls Q hx hb hr hts hown hlocks hml hP hK hD hA hS hl hQ
  unfold fn_X1_errorAt at hfn
  refine lv_iload_n hx hb dX1_errorAt_0 rfl (lv_at hl 1 rfl) ?_
  refine lv_aload_n hx hb dX1_errorAt_1 rfl (lv_at hl 0 rfl) ?_
  refine va_get (D := (dC, dI)) (ci := 1) (v := .int v0_3) (C := RX1) (T := TX1) (N := 14) hx hb hts zn_X1_errorAt_X1 hown hK hP 0 rfl rfl 3 (of_decide_eq_true rfl) (hts (.fieldLink RX1 86 "ShortEnough$FullSearch" "answers" "I") zw_X1_errorAt_228) (fun _ h9 => h9) rfl dX1_errorAt_2 ?_
  refine lv_imul hx hb dX1_errorAt_5 ?_
  refine lv_iload_n hx hb dX1_errorAt_6 rfl (lv_at hl 2 rfl) ?_
  refine lv_iadd hx hb dX1_errorAt_7 ?_
  refine lv_istore_n (lv' := [(3, .int ((p1 * v0_3) + p2)), (0, .ref h0), (1, .int p1), (2, .int p2)]) hx hb dX1_errorAt_8 rfl hl (of_decide_eq_true rfl) rfl (fun ls hl => ?_)
  refine lv_iload_n hx hb dX1_errorAt_9 rfl (lv_at hl 0 rfl) ?_
  refine lv_if_lt (tgt := 31) hx hb dX1_errorAt_10 (of_decide_eq_true rfl) (fun c_1 => ?_) (fun c_1 => ?_)
  · have hfn := (if_pos c_1).symm.trans hfn
    refine lv_ldc (v := 1000001) hx hb hown (hts (.constant RX1 127 (1000001)) zw_X1_errorAt_229) dX1_errorAt_31 ?_
    have ho := Option.some.inj hfn
    subst ho
    exact zri hx hb hr hK hP hD hS hQ rfl hlocks dX1_errorAt_33
  have hfn := (if_neg c_1).symm.trans hfn
  refine lv_iload_n hx hb dX1_errorAt_13 rfl (lv_at hl 0 rfl) ?_
  refine lv_aload_n hx hb dX1_errorAt_14 rfl (lv_at hl 1 rfl) ?_
  refine va_get (D := (dC, dI)) (ci := 1) (v := .ref r0_5) (C := RX1) (T := TX1) (N := 14) hx hb hts zn_X1_errorAt_X1 hown hK hP 0 rfl rfl 5 (of_decide_eq_true rfl) (hts (.fieldLink RX1 25 "ShortEnough$FullSearch" "errors" "[I") zw_X1_errorAt_230) (fun _ h9 => h9) rfl dX1_errorAt_15 ?_
  refine va_alen (v := (Int32.ofNat n1)) hx hb hK hP 1 0 rfl rfl rfl dX1_errorAt_18 ?_
  refine lv_icmp_ge (tgt := 31) hx hb dX1_errorAt_19 (of_decide_eq_true rfl) (fun c_2 => ?_) (fun c_2 => ?_)
  · have hfn := (if_pos c_2).symm.trans hfn
    refine lv_ldc (v := 1000001) hx hb hown (hts (.constant RX1 127 (1000001)) zw_X1_errorAt_229) dX1_errorAt_31 ?_
    have ho := Option.some.inj hfn
    subst ho
    exact zri hx hb hr hK hP hD hS hQ rfl hlocks dX1_errorAt_33
  have hfn := (if_neg c_2).symm.trans hfn
  refine lv_aload_n hx hb dX1_errorAt_22 rfl (lv_at hl 1 rfl) ?_
  refine va_get (D := (dC, dI)) (ci := 1) (v := .ref r0_5) (C := RX1) (T := TX1) (N := 14) hx hb hts zn_X1_errorAt_X1 hown hK hP 0 rfl rfl 5 (of_decide_eq_true rfl) (hts (.fieldLink RX1 25 "ShortEnough$FullSearch" "errors" "[I") zw_X1_errorAt_230) (fun _ h9 => h9) rfl dX1_errorAt_23 ?_
  refine lv_iload_n hx hb dX1_errorAt_26 rfl (lv_at hl 0 rfl) ?_
  obtain ⟨h_3, hfn⟩ := zg_s hfn
  refine va_iald hx hb hK hP 1 0 rfl rfl h_3 dX1_errorAt_27 ?_
  refine lv_goto (tgt := 33) hx hb dX1_errorAt_28 (of_decide_eq_true rfl) ?_
  have ho := Option.some.inj hfn
  subst ho
  exact zri hx hb hr hK hP hD hS hQ rfl hlocks dX1_errorAt_33
theorem zn_X1_leastWithin_X9 : ∀ w ∈ wsX90, w ∈ wsX1_leastWithin := fun _ h => List.mem_cons_of_mem _ (List.mem_append_left _ (List.mem_append_left _ (List.mem_append_right _ h)))
theorem zw_X1_leastWithin_232 : Cond.fieldLink RX1 48 "ShortEnough$Task" "numbers" "LShortEnough$Numbers;" ∈ wsX1_leastWithin := List.mem_of_getElem? (i := 1) (by decide +kernel)
theorem zw_X1_leastWithin_233 : Cond.constantLong RX1 128 (-1000000000000000) ∈ wsX1_leastWithin := List.mem_of_getElem? (i := 2) (by decide +kernel)
theorem zn_X1_leastWithin_X1 : ∀ w ∈ wsX10, w ∈ wsX1_leastWithin := fun _ h => List.mem_cons_of_mem _ (List.mem_append_left _ (List.mem_append_right _ h))
theorem zw_X1_leastWithin_235 : Cond.fieldLink RX1 68 "ShortEnough$FullSearch" "many" "I" ∈ wsX1_leastWithin := List.mem_of_getElem? (i := 3) (by decide +kernel)
theorem zw_X1_leastWithin_236 : Cond.fieldLink RX1 22 "ShortEnough$FullSearch" "prices" "[I" ∈ wsX1_leastWithin := List.mem_of_getElem? (i := 4) (by decide +kernel)
set_option maxHeartbeats 4000000 in
set_option maxRecDepth 100000 in
theorem zf_X1_leastWithin (l : Launch) (dC : Nat → ClassId) (dI : Nat → Nat → Nat) (h0 : Nat) (h1 : Nat) (p2 : Int32) (p3 : Int32) (r0_0 : Nat) (r0_1 : Nat) (v0_2 : Int32) (v0_3 : Int32) (r0_4 : Nat) (r0_5 : Nat) (v0_6 : Int32) (v0_7 : Int32) (v0_8 : Int32) (v0_9 : Int32) (v0_10 : Int32) (r0_11 : Nat) (r0_12 : Nat) (r0_13 : Nat) (v1_0 : Int32) (r1_1 : Nat) (r1_2 : Nat) (r1_3 : Nat) (r1_4 : Nat) (v1_5 : Int32) (r1_6 : Nat) (r1_7 : Nat) (r1_8 : Nat) (v2_0 : Int32) (v2_1 : Int32) (r2_2 : Nat) (r2_3 : Nat) (r2_4 : Nat) (r2_5 : Nat) (r2_6 : Nat) (r2_7 : Nat) (r2_8 : Nat) (r2_9 : Nat) (k3 : Nat) (f3 : Nat → Int32) (k4 : Nat) (n4 : Nat) (f4 : Nat → Int32) (k5 : Nat) (n5 : Nat) (f5 : Nat → Int32) (o : Int64) (hfn : fn_X1_leastWithin p2 p3 v0_3 v0_6 v2_0 f3 n4 f4 n5 f5 = some o) (sz : Nat) : zMl l yX1_leastWithin wsX1_leastWithin ({ frames := 1, cells := 0, slots := 0, locals := 23 }) (dC, dI) vwCl [.ref h0, .ref h1, .int p2, .int p3] [zV1 h0 r0_0 r0_1 v0_2 v0_3 r0_4 r0_5 v0_6 v0_7 v0_8 v0_9 v0_10 r0_11 r0_12 r0_13, zV9 h1 v1_0 r1_1 r1_2 r1_3 r1_4 v1_5 r1_6 r1_7 r1_8, zV4 r1_6 v2_0 v2_1 r2_2 r2_3 r2_4 r2_5 r2_6 r2_7 r2_8 r2_9, zVi r2_5 k3 14 f3, zVi r0_4 k4 n4 f4, zVi r0_5 k5 n5 f5] [(k3, .int), (k4, .int), (k5, .int)] (fun r _ => r = o) [zV1 h0 r0_0 r0_1 v0_2 v0_3 r0_4 r0_5 v0_6 v0_7 v0_8 v0_9 v0_10 r0_11 r0_12 r0_13, zV9 h1 v1_0 r1_1 r1_2 r1_3 r1_4 v1_5 r1_6 r1_7 r1_8, zV4 r1_6 v2_0 v2_1 r2_2 r2_3 r2_4 r2_5 r2_6 r2_7 r2_8 r2_9, zVi r2_5 k3 14 f3, zVi r0_4 k4 n4 f4, zVi r0_5 k5 n5 f5] [(k3, .int), (k4, .int), (k5, .int)] sz := by
  refine zgol (cc := cX1_leastWithin) (maxL := 8) (ret := (some .long)) (C0 := RX1) (lv0 := [(0, .ref h0), (1, .ref h1), (2, .int p2), (3, .int p3)]) zpl_X1 rfl rfl rfl (Nat.le_of_ble_eq_true rfl) ?_
  intro p e s m below meth c A ls Q hx hb hr hts hown hlocks hml hP hK hD hA hS hl hQ
  unfold fn_X1_leastWithin at hfn
  refine lv_aload_n hx hb dX1_leastWithin_0 rfl (lv_at hl 1 rfl) ?_
  refine va_get (D := (dC, dI)) (ci := 9) (v := .ref r1_6) (C := RX9) (T := TX9) (N := 9) hx hb hts zn_X1_leastWithin_X9 hown hK hP 1 rfl rfl 6 (of_decide_eq_true rfl) (hts (.fieldLink RX1 48 "ShortEnough$Task" "numbers" "LShortEnough$Numbers;") zw_X1_leastWithin_232) (fun _ h9 => h9) rfl dX1_leastWithin_1 ?_
  refine lv_iload_n hx hb dX1_leastWithin_4 rfl (lv_at hl 2 rfl) ?_
  obtain ⟨o_1, hqo_1, hfn⟩ := zb_s hfn
  refine zcVi (ci := 4) (rest := []) (pc' := 8) (ws' := [zV1 h0 r0_0 r0_1 v0_2 v0_3 r0_4 r0_5 v0_6 v0_7 v0_8 v0_9 v0_10 r0_11 r0_12 r0_13, zV9 h1 v1_0 r1_1 r1_2 r1_3 r1_4 v1_5 r1_6 r1_7 r1_8, zV4 r1_6 v2_0 v2_1 r2_2 r2_3 r2_4 r2_5 r2_6 r2_7 r2_8 r2_9, zVi r2_5 k3 14 f3, zVi r0_4 k4 n4 f4, zVi r0_5 k5 n5 f5]) hP hK hD hS hA ⟨hx, hb, hml, hown, hts⟩ (zf_X4_countAnswers l dC dI r1_6 p2 v2_0 v2_1 r2_2 r2_3 r2_4 r2_5 r2_6 r2_7 r2_8 r2_9 k3 f3 o_1 hqo_1 s.heap.size) (cwV 1 hts gX1_leastWithin_X4_countAnswers rfl rfl rfl zhd_X4_countAnswers ⟨Nat.le_of_ble_eq_true rfl, Nat.le_of_ble_eq_true rfl⟩) [2, 3] rfl (of_decide_eq_true rfl) [0] rfl rfl rfl rfl hl.1 rfl (Nat.le_of_ble_eq_true rfl) dX1_leastWithin_5 ⟨Nat.le_of_ble_eq_true rfl, Nat.le_of_ble_eq_true rfl⟩ [none, none, some 0, some 1] (of_decide_eq_true rfl) (of_decide_eq_true rfl) rfl rfl rfl (fun H locs hP hD hS => ?_)
  refine lv_istore (lv' := [(4, .int o_1), (0, .ref h0), (1, .ref h1), (2, .int p2), (3, .int p3)]) hx hb dX1_leastWithin_8 hl (of_decide_eq_true rfl) rfl (fun ls hl => ?_)
  refine lv_ldc2 (v := (-1000000000000000)) hx hb hown (hts (.constantLong RX1 128 (-1000000000000000)) zw_X1_leastWithin_233) dX1_leastWithin_10 ?_
  refine lv_lstore (lv' := [(5, .long (-1000000000000000)), (4, .int o_1), (0, .ref h0), (1, .ref h1), (2, .int p2), (3, .int p3)]) hx hb dX1_leastWithin_13 hl (of_decide_eq_true rfl) rfl (fun ls hl => ?_)
  refine lv_iconst (v := 0) hx hb dX1_leastWithin_15 zci_0 ?_
  refine lv_istore (lv' := [(7, .int 0), (5, .long (-1000000000000000)), (4, .int o_1), (0, .ref h0), (1, .ref h1), (2, .int p2), (3, .int p3)]) hx hb dX1_leastWithin_16 hl (of_decide_eq_true rfl) rfl (fun ls hl => ?_)
  obtain ⟨bd_5, ebd_5, hfn⟩ := zl_g hfn
  have lp_5 : ∀ (n : Nat) (s_5 : Int64 × Int32) (H : Heap) (locs : List Loc) (ls : Array Slot), zl bd_5 n s_5 = some o → va_P (dC, dI) vwCl [zV1 h0 r0_0 r0_1 v0_2 v0_3 r0_4 r0_5 v0_6 v0_7 v0_8 v0_9 v0_10 r0_11 r0_12 r0_13, zV9 h1 v1_0 r1_1 r1_2 r1_3 r1_4 v1_5 r1_6 r1_7 r1_8, zV4 r1_6 v2_0 v2_1 r2_2 r2_3 r2_4 r2_5 r2_6 r2_7 r2_8 r2_9, zVi r2_5 k3 14 f3, zVi r0_4 k4 n4 f4, zVi r0_5 k5 n5 f5] H → va_D A [zV1 h0 r0_0 r0_1 v0_2 v0_3 r0_4 r0_5 v0_6 v0_7 v0_8 v0_9 v0_10 r0_11 r0_12 r0_13, zV9 h1 v1_0 r1_1 r1_2 r1_3 r1_4 v1_5 r1_6 r1_7 r1_8, zV4 r1_6 v2_0 v2_1 r2_2 r2_3 r2_4 r2_5 r2_6 r2_7 r2_8 r2_9, zVi r2_5 k3 14 f3, zVi r0_4 k4 n4 f4, zVi r0_5 k5 n5 f5] → va_S A s.heap H locs → lv_has ls 8 [(7, .int s_5.2), (5, .long s_5.1), (4, .int o_1), (0, .ref h0), (3, .int p3)] → W p l e (headSpec wsX1_leastWithin ({ frames := 1, cells := 0, slots := 0, locals := 23 })).room s m ([.ref h0, .ref h1, .int p2, .int p3] : List Value).toArray below meth c H locs 0 0 Q (F0 m 18 ls []) := by
    intro n
    induction n with
    | zero => exact fun _ _ _ _ hfn => (zl_0 hfn).elim
    | succ n ih_5 =>
      intro s_5 H locs ls hfn hP hD hS hl
      have hfn := zl_s ebd_5 hfn
      refine lv_iload hx hb dX1_leastWithin_18 (lv_at hl 0 rfl) ?_
      refine lv_aload_n hx hb dX1_leastWithin_20 rfl (lv_at hl 3 rfl) ?_
      refine va_get (D := (dC, dI)) (ci := 1) (v := .int v0_6) (C := RX1) (T := TX1) (N := 14) hx hb hts zn_X1_leastWithin_X1 hown hK hP 0 rfl rfl 6 (of_decide_eq_true rfl) (hts (.fieldLink RX1 68 "ShortEnough$FullSearch" "many" "I") zw_X1_leastWithin_235) (fun _ h9 => h9) rfl dX1_leastWithin_21 ?_
      refine lv_icmp_ge (tgt := 79) hx hb dX1_leastWithin_24 (of_decide_eq_true rfl) (fun c_6 => ?_) (fun c_6 => ?_)
      · have hfn := (if_pos c_6).symm.trans hfn
        refine lv_lload hx hb dX1_leastWithin_79 (lv_at hl 1 rfl) ?_
        have ho := Option.some.inj hfn
        subst ho
        exact zrl hx hb hr hK hP hD hS hQ rfl hlocks dX1_leastWithin_81
      have hfn := (if_neg c_6).symm.trans hfn
      refine lv_aload_n hx hb dX1_leastWithin_27 rfl (lv_at hl 3 rfl) ?_
      refine va_get (D := (dC, dI)) (ci := 1) (v := .ref r0_4) (C := RX1) (T := TX1) (N := 14) hx hb hts zn_X1_leastWithin_X1 hown hK hP 0 rfl rfl 4 (of_decide_eq_true rfl) (hts (.fieldLink RX1 22 "ShortEnough$FullSearch" "prices" "[I") zw_X1_leastWithin_236) (fun _ h9 => h9) rfl dX1_leastWithin_28 ?_
      refine lv_iload hx hb dX1_leastWithin_31 (lv_at hl 0 rfl) ?_
      obtain ⟨h_7, hfn⟩ := zg_s hfn
      refine va_iald hx hb hK hP 4 1 rfl rfl h_7 dX1_leastWithin_33 ?_
      refine lv_iload_n hx hb dX1_leastWithin_34 rfl (lv_at hl 4 rfl) ?_
      refine lv_icmp_gt (tgt := 73) hx hb dX1_leastWithin_35 (of_decide_eq_true rfl) (fun c_8 => ?_) (fun c_8 => ?_)
      · have hfn := (if_pos c_8).symm.trans hfn
        refine lv_iinc (v := (s_5.2 + 1)) (lv' := [(7, .int (s_5.2 + 1)), (5, .long s_5.1), (4, .int o_1), (0, .ref h0), (3, .int p3)]) hx hb dX1_leastWithin_73 hl (k := 0) rfl rfl (of_decide_eq_true rfl) rfl (fun ls hl => ?_)
        refine lv_goto (tgt := 18) hx hb dX1_leastWithin_76 (of_decide_eq_true rfl) ?_
        exact ih_5 (s_5.1, (s_5.2 + 1)) H locs ls hfn hP hD hS (lv_sub hl [0, 1, 2, 3, 4] rfl)
      have hfn := (if_neg c_8).symm.trans hfn
      refine lv_lload hx hb dX1_leastWithin_38 (lv_at hl 1 rfl) ?_
      refine lv_ldc2 (v := (-1000000000000000)) hx hb hown (hts (.constantLong RX1 128 (-1000000000000000)) zw_X1_leastWithin_233) dX1_leastWithin_40 ?_
      refine W.lcmp hx hb dX1_leastWithin_43 ?_
      refine lv_if_eq (tgt := 62) hx hb dX1_leastWithin_44 (of_decide_eq_true rfl) (fun c_9 => ?_) (fun c_9 => ?_)
      · have hfn := (if_pos c_9).symm.trans hfn
        refine lv_aload_n hx hb dX1_leastWithin_62 rfl (lv_at hl 3 rfl) ?_
        refine lv_iload hx hb dX1_leastWithin_63 (lv_at hl 0 rfl) ?_
        refine lv_iload hx hb dX1_leastWithin_65 (lv_at hl 2 rfl) ?_
        obtain ⟨o_10, hqo_10, hfn⟩ := zb_s hfn
        refine zcVi (ci := 1) (rest := []) (pc' := 70) (ws' := [zV1 h0 r0_0 r0_1 v0_2 v0_3 r0_4 r0_5 v0_6 v0_7 v0_8 v0_9 v0_10 r0_11 r0_12 r0_13, zV9 h1 v1_0 r1_1 r1_2 r1_3 r1_4 v1_5 r1_6 r1_7 r1_8, zV4 r1_6 v2_0 v2_1 r2_2 r2_3 r2_4 r2_5 r2_6 r2_7 r2_8 r2_9, zVi r2_5 k3 14 f3, zVi r0_4 k4 n4 f4, zVi r0_5 k5 n5 f5]) hP hK hD hS hA ⟨hx, hb, hml, hown, hts⟩ (zf_X1_errorAt l dC dI h0 s_5.2 o_1 r0_0 r0_1 v0_2 v0_3 r0_4 r0_5 v0_6 v0_7 v0_8 v0_9 v0_10 r0_11 r0_12 r0_13 k5 n5 f5 o_10 hqo_10 H.size) (cwV 2 hts gX1_leastWithin_X1_errorAt rfl rfl rfl zhd_X1_errorAt ⟨Nat.le_of_ble_eq_true rfl, Nat.le_of_ble_eq_true rfl⟩) [0, 5] rfl (of_decide_eq_true rfl) [2] rfl rfl rfl rfl hl.1 rfl (Nat.le_of_ble_eq_true rfl) dX1_leastWithin_67 ⟨Nat.le_of_ble_eq_true rfl, Nat.le_of_ble_eq_true rfl⟩ [some 0, none, none, none, none, some 1] (of_decide_eq_true rfl) (of_decide_eq_true rfl) rfl rfl rfl (fun H locs hP hD hS => ?_)
        refine lv_i2l (v := o_10.toInt64) hx hb dX1_leastWithin_70 rfl ?_
        refine lv_lstore (lv' := [(5, .long o_10.toInt64), (7, .int s_5.2), (4, .int o_1), (0, .ref h0), (3, .int p3)]) hx hb dX1_leastWithin_71 hl (of_decide_eq_true rfl) rfl (fun ls hl => ?_)
        refine lv_iinc (v := (s_5.2 + 1)) (lv' := [(7, .int (s_5.2 + 1)), (5, .long o_10.toInt64), (4, .int o_1), (0, .ref h0), (3, .int p3)]) hx hb dX1_leastWithin_73 hl (k := 1) rfl rfl (of_decide_eq_true rfl) rfl (fun ls hl => ?_)
        refine lv_goto (tgt := 18) hx hb dX1_leastWithin_76 (of_decide_eq_true rfl) ?_
        exact ih_5 (o_10.toInt64, (s_5.2 + 1)) H locs ls hfn hP hD hS (lv_sub hl [0, 1, 2, 3, 4] rfl)
      have hfn := (if_neg c_9).symm.trans hfn
      refine lv_aload_n hx hb dX1_leastWithin_47 rfl (lv_at hl 3 rfl) ?_
      refine lv_iload hx hb dX1_leastWithin_48 (lv_at hl 0 rfl) ?_
      refine lv_iload hx hb dX1_leastWithin_50 (lv_at hl 2 rfl) ?_
      obtain ⟨o_14, hqo_14, hfn⟩ := zb_s hfn
      refine zcVi (ci := 1) (rest := []) (pc' := 55) (ws' := [zV1 h0 r0_0 r0_1 v0_2 v0_3 r0_4 r0_5 v0_6 v0_7 v0_8 v0_9 v0_10 r0_11 r0_12 r0_13, zV9 h1 v1_0 r1_1 r1_2 r1_3 r1_4 v1_5 r1_6 r1_7 r1_8, zV4 r1_6 v2_0 v2_1 r2_2 r2_3 r2_4 r2_5 r2_6 r2_7 r2_8 r2_9, zVi r2_5 k3 14 f3, zVi r0_4 k4 n4 f4, zVi r0_5 k5 n5 f5]) hP hK hD hS hA ⟨hx, hb, hml, hown, hts⟩ (zf_X1_errorAt l dC dI h0 s_5.2 o_1 r0_0 r0_1 v0_2 v0_3 r0_4 r0_5 v0_6 v0_7 v0_8 v0_9 v0_10 r0_11 r0_12 r0_13 k5 n5 f5 o_14 hqo_14 H.size) (cwV 2 hts gX1_leastWithin_X1_errorAt rfl rfl rfl zhd_X1_errorAt ⟨Nat.le_of_ble_eq_true rfl, Nat.le_of_ble_eq_true rfl⟩) [0, 5] rfl (of_decide_eq_true rfl) [2] rfl rfl rfl rfl hl.1 rfl (Nat.le_of_ble_eq_true rfl) dX1_leastWithin_52 ⟨Nat.le_of_ble_eq_true rfl, Nat.le_of_ble_eq_true rfl⟩ [some 0, none, none, none, none, some 1] (of_decide_eq_true rfl) (of_decide_eq_true rfl) rfl rfl rfl (fun H locs hP hD hS => ?_)
      refine lv_i2l (v := o_14.toInt64) hx hb dX1_leastWithin_55 rfl ?_
      refine lv_lload hx hb dX1_leastWithin_56 (lv_at hl 1 rfl) ?_
      refine W.lcmp hx hb dX1_leastWithin_58 ?_
      refine lv_if_ge (tgt := 73) hx hb dX1_leastWithin_59 (of_decide_eq_true rfl) (fun c_18 => ?_) (fun c_18 => ?_)
      · have hfn := (if_pos c_18).symm.trans hfn
        refine lv_iinc (v := (s_5.2 + 1)) (lv' := [(7, .int (s_5.2 + 1)), (5, .long s_5.1), (4, .int o_1), (0, .ref h0), (3, .int p3)]) hx hb dX1_leastWithin_73 hl (k := 0) rfl rfl (of_decide_eq_true rfl) rfl (fun ls hl => ?_)
        refine lv_goto (tgt := 18) hx hb dX1_leastWithin_76 (of_decide_eq_true rfl) ?_
        exact ih_5 (s_5.1, (s_5.2 + 1)) H locs ls hfn hP hD hS (lv_sub hl [0, 1, 2, 3, 4] rfl)
      have hfn := (if_neg c_18).symm.trans hfn
      refine lv_aload_n hx hb dX1_leastWithin_62 rfl (lv_at hl 3 rfl) ?_
      refine lv_iload hx hb dX1_leastWithin_63 (lv_at hl 0 rfl) ?_
      refine lv_iload hx hb dX1_leastWithin_65 (lv_at hl 2 rfl) ?_
      obtain ⟨o_19, hqo_19, hfn⟩ := zb_s hfn
      refine zcVi (ci := 1) (rest := []) (pc' := 70) (ws' := [zV1 h0 r0_0 r0_1 v0_2 v0_3 r0_4 r0_5 v0_6 v0_7 v0_8 v0_9 v0_10 r0_11 r0_12 r0_13, zV9 h1 v1_0 r1_1 r1_2 r1_3 r1_4 v1_5 r1_6 r1_7 r1_8, zV4 r1_6 v2_0 v2_1 r2_2 r2_3 r2_4 r2_5 r2_6 r2_7 r2_8 r2_9, zVi r2_5 k3 14 f3, zVi r0_4 k4 n4 f4, zVi r0_5 k5 n5 f5]) hP hK hD hS hA ⟨hx, hb, hml, hown, hts⟩ (zf_X1_errorAt l dC dI h0 s_5.2 o_1 r0_0 r0_1 v0_2 v0_3 r0_4 r0_5 v0_6 v0_7 v0_8 v0_9 v0_10 r0_11 r0_12 r0_13 k5 n5 f5 o_19 hqo_19 H.size) (cwV 2 hts gX1_leastWithin_X1_errorAt rfl rfl rfl zhd_X1_errorAt ⟨Nat.le_of_ble_eq_true rfl, Nat.le_of_ble_eq_true rfl⟩) [0, 5] rfl (of_decide_eq_true rfl) [2] rfl rfl rfl rfl hl.1 rfl (Nat.le_of_ble_eq_true rfl) dX1_leastWithin_67 ⟨Nat.le_of_ble_eq_true rfl, Nat.le_of_ble_eq_true rfl⟩ [some 0, none, none, none, none, some 1] (of_decide_eq_true rfl) (of_decide_eq_true rfl) rfl rfl rfl (fun H locs hP hD hS => ?_)
      refine lv_i2l (v := o_19.toInt64) hx hb dX1_leastWithin_70 rfl ?_
      refine lv_lstore (lv' := [(5, .long o_19.toInt64), (7, .int s_5.2), (4, .int o_1), (0, .ref h0), (3, .int p3)]) hx hb dX1_leastWithin_71 hl (of_decide_eq_true rfl) rfl (fun ls hl => ?_)
      refine lv_iinc (v := (s_5.2 + 1)) (lv' := [(7, .int (s_5.2 + 1)), (5, .long o_19.toInt64), (4, .int o_1), (0, .ref h0), (3, .int p3)]) hx hb dX1_leastWithin_73 hl (k := 1) rfl rfl (of_decide_eq_true rfl) rfl (fun ls hl => ?_)
      refine lv_goto (tgt := 18) hx hb dX1_leastWithin_76 (of_decide_eq_true rfl) ?_
      exact ih_5 (o_19.toInt64, (s_5.2 + 1)) H locs ls hfn hP hD hS (lv_sub hl [0, 1, 2, 3, 4] rfl)
  exact lp_5 _ ((-1000000000000000), 0) H locs ls hfn hP hD hS (lv_sub hl [0, 1, 2, 3, 6] rfl)
theorem zn_X1_cheapestBelow_X1 : ∀ w ∈ wsX10, w ∈ wsX1_cheapestBelow := fun _ h => List.mem_cons_of_mem _ (List.mem_append_right _ h)
theorem zw_X1_cheapestBelow_245 : Cond.fieldLink RX1 68 "ShortEnough$FullSearch" "many" "I" ∈ wsX1_cheapestBelow := List.mem_of_getElem? (i := 1) (by decide +kernel)
theorem zw_X1_cheapestBelow_246 : Cond.fieldLink RX1 22 "ShortEnough$FullSearch" "prices" "[I" ∈ wsX1_cheapestBelow := List.mem_of_getElem? (i := 2) (by decide +kernel)
set_option maxHeartbeats 4000000 in
set_option maxRecDepth 100000 in
theorem zf_X1_cheapestBelow (l : Launch) (dC : Nat → ClassId) (dI : Nat → Nat → Nat) (h0 : Nat) (p1 : Int32) (p2 : Int32) (r0_0 : Nat) (r0_1 : Nat) (v0_2 : Int32) (v0_3 : Int32) (r0_4 : Nat) (r0_5 : Nat) (v0_6 : Int32) (v0_7 : Int32) (v0_8 : Int32) (v0_9 : Int32) (v0_10 : Int32) (r0_11 : Nat) (r0_12 : Nat) (r0_13 : Nat) (k1 : Nat) (n1 : Nat) (f1 : Nat → Int32) (k2 : Nat) (n2 : Nat) (f2 : Nat → Int32) (o : Int32) (hfn : fn_X1_cheapestBelow p1 p2 v0_3 v0_6 n1 f1 n2 f2 = some o) (sz : Nat) : zMi l yX1_cheapestBelow wsX1_cheapestBelow ({ frames := 1, cells := 0, slots := 0, locals := 23 }) (dC, dI) vwCl [.ref h0, .int p1, .int p2] [zV1 h0 r0_0 r0_1 v0_2 v0_3 r0_4 r0_5 v0_6 v0_7 v0_8 v0_9 v0_10 r0_11 r0_12 r0_13, zVi r0_5 k1 n1 f1, zVi r0_4 k2 n2 f2] [(k1, .int), (k2, .int)] (fun r _ => r = o) [zV1 h0 r0_0 r0_1 v0_2 v0_3 r0_4 r0_5 v0_6 v0_7 v0_8 v0_9 v0_10 r0_11 r0_12 r0_13, zVi r0_5 k1 n1 f1, zVi r0_4 k2 n2 f2] [(k1, .int), (k2, .int)] sz := by
  refine zgoi (cc := cX1_cheapestBelow) (maxL := 6) (ret := (some .int)) (C0 := RX1) (lv0 := [(0, .ref h0), (1, .int p1), (2, .int p2)]) zpl_X1 rfl rfl rfl (Nat.le_of_ble_eq_true rfl) ?_
  intro p e s m below meth c A ls Q hx hb hr hts hown hlocks hml hP hK hD hA hS hl hQ
  unfold fn_X1_cheapestBelow at hfn
  refine lv_iconst (v := (-1)) hx hb dX1_cheapestBelow_0 zci_m1 ?_
  refine lv_istore_n (lv' := [(3, .int (-1)), (0, .ref h0), (1, .int p1), (2, .int p2)]) hx hb dX1_cheapestBelow_1 rfl hl (of_decide_eq_true rfl) rfl (fun ls hl => ?_)
  refine lv_iconst (v := 0) hx hb dX1_cheapestBelow_2 zci_0 ?_
  refine lv_istore (lv' := [(4, .int 0), (3, .int (-1)), (0, .ref h0), (1, .int p1), (2, .int p2)]) hx hb dX1_cheapestBelow_3 hl (of_decide_eq_true rfl) rfl (fun ls hl => ?_)
  obtain ⟨bd_1, ebd_1, hfn⟩ := zl_g hfn
  have lp_1 : ∀ (n : Nat) (s_1 : Int32 × Int32) (H : Heap) (locs : List Loc) (ls : Array Slot), zl bd_1 n s_1 = some o → va_P (dC, dI) vwCl [zV1 h0 r0_0 r0_1 v0_2 v0_3 r0_4 r0_5 v0_6 v0_7 v0_8 v0_9 v0_10 r0_11 r0_12 r0_13, zVi r0_5 k1 n1 f1, zVi r0_4 k2 n2 f2] H → va_D A [zV1 h0 r0_0 r0_1 v0_2 v0_3 r0_4 r0_5 v0_6 v0_7 v0_8 v0_9 v0_10 r0_11 r0_12 r0_13, zVi r0_5 k1 n1 f1, zVi r0_4 k2 n2 f2] → va_S A s.heap H locs → lv_has ls 6 [(4, .int s_1.2), (3, .int s_1.1), (0, .ref h0), (1, .int p1), (2, .int p2)] → W p l e (headSpec wsX1_cheapestBelow ({ frames := 1, cells := 0, slots := 0, locals := 23 })).room s m ([.ref h0, .int p1, .int p2] : List Value).toArray below meth c H locs 0 0 Q (F0 m 5 ls []) := by
    intro n
    induction n with
    | zero => exact fun _ _ _ _ hfn => (zl_0 hfn).elim
    | succ n ih_1 =>
      intro s_1 H locs ls hfn hP hD hS hl
      have hfn := zl_s ebd_1 hfn
      refine lv_iload hx hb dX1_cheapestBelow_5 (lv_at hl 0 rfl) ?_
      refine lv_aload_n hx hb dX1_cheapestBelow_7 rfl (lv_at hl 2 rfl) ?_
      refine va_get (D := (dC, dI)) (ci := 1) (v := .int v0_6) (C := RX1) (T := TX1) (N := 14) hx hb hts zn_X1_cheapestBelow_X1 hown hK hP 0 rfl rfl 6 (of_decide_eq_true rfl) (hts (.fieldLink RX1 68 "ShortEnough$FullSearch" "many" "I") zw_X1_cheapestBelow_245) (fun _ h9 => h9) rfl dX1_cheapestBelow_8 ?_
      refine lv_icmp_ge (tgt := 86) hx hb dX1_cheapestBelow_11 (of_decide_eq_true rfl) (fun c_2 => ?_) (fun c_2 => ?_)
      · have hfn := (if_pos c_2).symm.trans hfn
        refine lv_iload_n hx hb dX1_cheapestBelow_86 rfl (lv_at hl 1 rfl) ?_
        have ho := Option.some.inj hfn
        subst ho
        exact zri hx hb hr hK hP hD hS hQ rfl hlocks dX1_cheapestBelow_87
      have hfn := (if_neg c_2).symm.trans hfn
      refine lv_aload_n hx hb dX1_cheapestBelow_14 rfl (lv_at hl 2 rfl) ?_
      refine lv_iload hx hb dX1_cheapestBelow_15 (lv_at hl 0 rfl) ?_
      refine lv_iload_n hx hb dX1_cheapestBelow_17 rfl (lv_at hl 3 rfl) ?_
      obtain ⟨o_3, hqo_3, hfn⟩ := zb_s hfn
      refine zcVi (ci := 1) (rest := []) (pc' := 21) (ws' := [zV1 h0 r0_0 r0_1 v0_2 v0_3 r0_4 r0_5 v0_6 v0_7 v0_8 v0_9 v0_10 r0_11 r0_12 r0_13, zVi r0_5 k1 n1 f1, zVi r0_4 k2 n2 f2]) hP hK hD hS hA ⟨hx, hb, hml, hown, hts⟩ (zf_X1_errorAt l dC dI h0 s_1.2 p1 r0_0 r0_1 v0_2 v0_3 r0_4 r0_5 v0_6 v0_7 v0_8 v0_9 v0_10 r0_11 r0_12 r0_13 k1 n1 f1 o_3 hqo_3 H.size) (cwV 2 hts gX1_cheapestBelow_X1_errorAt rfl rfl rfl zhd_X1_errorAt ⟨Nat.le_of_ble_eq_true rfl, Nat.le_of_ble_eq_true rfl⟩) [0, 1] rfl (of_decide_eq_true rfl) [0] rfl rfl rfl rfl hl.1 rfl (Nat.le_of_ble_eq_true rfl) dX1_cheapestBelow_18 ⟨Nat.le_of_ble_eq_true rfl, Nat.le_of_ble_eq_true rfl⟩ [some 0, some 1] (of_decide_eq_true rfl) (of_decide_eq_true rfl) rfl rfl rfl (fun H locs hP hD hS => ?_)
      refine lv_istore (lv' := [(5, .int o_3), (4, .int s_1.2), (3, .int s_1.1), (0, .ref h0), (1, .int p1), (2, .int p2)]) hx hb dX1_cheapestBelow_21 hl (of_decide_eq_true rfl) rfl (fun ls hl => ?_)
      refine lv_iload hx hb dX1_cheapestBelow_23 (lv_at hl 0 rfl) ?_
      refine lv_iload_n hx hb dX1_cheapestBelow_25 rfl (lv_at hl 5 rfl) ?_
      refine lv_icmp_ge (tgt := 80) hx hb dX1_cheapestBelow_26 (of_decide_eq_true rfl) (fun c_7 => ?_) (fun c_7 => ?_)
      · have hfn := (if_pos c_7).symm.trans hfn
        refine lv_iinc (v := (s_1.2 + 1)) (lv' := [(4, .int (s_1.2 + 1)), (5, .int o_3), (3, .int s_1.1), (0, .ref h0), (1, .int p1), (2, .int p2)]) hx hb dX1_cheapestBelow_80 hl (k := 1) rfl rfl (of_decide_eq_true rfl) rfl (fun ls hl => ?_)
        refine lv_goto (tgt := 5) hx hb dX1_cheapestBelow_83 (of_decide_eq_true rfl) ?_
        exact ih_1 (s_1.1, (s_1.2 + 1)) H locs ls hfn hP hD hS (lv_sub hl [0, 2, 3, 4, 5] rfl)
      have hfn := (if_neg c_7).symm.trans hfn
      refine lv_iload_n hx hb dX1_cheapestBelow_29 rfl (lv_at hl 2 rfl) ?_
      refine lv_iconst (v := (-1)) hx hb dX1_cheapestBelow_30 zci_m1 ?_
      refine lv_icmp_eq (tgt := 77) hx hb dX1_cheapestBelow_31 (of_decide_eq_true rfl) (fun c_8 => ?_) (fun c_8 => ?_)
      · have hfn := (if_pos c_8).symm.trans hfn
        refine lv_iload hx hb dX1_cheapestBelow_77 (lv_at hl 1 rfl) ?_
        refine lv_istore_n (lv' := [(3, .int s_1.2), (5, .int o_3), (4, .int s_1.2), (0, .ref h0), (1, .int p1), (2, .int p2)]) hx hb dX1_cheapestBelow_79 rfl hl (of_decide_eq_true rfl) rfl (fun ls hl => ?_)
        refine lv_iinc (v := (s_1.2 + 1)) (lv' := [(4, .int (s_1.2 + 1)), (3, .int s_1.2), (5, .int o_3), (0, .ref h0), (1, .int p1), (2, .int p2)]) hx hb dX1_cheapestBelow_80 hl (k := 2) rfl rfl (of_decide_eq_true rfl) rfl (fun ls hl => ?_)
        refine lv_goto (tgt := 5) hx hb dX1_cheapestBelow_83 (of_decide_eq_true rfl) ?_
        exact ih_1 (s_1.2, (s_1.2 + 1)) H locs ls hfn hP hD hS (lv_sub hl [0, 1, 3, 4, 5] rfl)
      have hfn := (if_neg c_8).symm.trans hfn
      refine lv_aload_n hx hb dX1_cheapestBelow_34 rfl (lv_at hl 3 rfl) ?_
      refine va_get (D := (dC, dI)) (ci := 1) (v := .ref r0_4) (C := RX1) (T := TX1) (N := 14) hx hb hts zn_X1_cheapestBelow_X1 hown hK hP 0 rfl rfl 4 (of_decide_eq_true rfl) (hts (.fieldLink RX1 22 "ShortEnough$FullSearch" "prices" "[I") zw_X1_cheapestBelow_246) (fun _ h9 => h9) rfl dX1_cheapestBelow_35 ?_
      refine lv_iload hx hb dX1_cheapestBelow_38 (lv_at hl 1 rfl) ?_
      obtain ⟨h_9, hfn⟩ := zg_s hfn
      refine va_iald hx hb hK hP 2 1 rfl rfl h_9 dX1_cheapestBelow_40 ?_
      refine lv_aload_n hx hb dX1_cheapestBelow_41 rfl (lv_at hl 3 rfl) ?_
      refine va_get (D := (dC, dI)) (ci := 1) (v := .ref r0_4) (C := RX1) (T := TX1) (N := 14) hx hb hts zn_X1_cheapestBelow_X1 hown hK hP 0 rfl rfl 4 (of_decide_eq_true rfl) (hts (.fieldLink RX1 22 "ShortEnough$FullSearch" "prices" "[I") zw_X1_cheapestBelow_246) (fun _ h9 => h9) rfl dX1_cheapestBelow_42 ?_
      refine lv_iload_n hx hb dX1_cheapestBelow_45 rfl (lv_at hl 2 rfl) ?_
      obtain ⟨h_10, hfn⟩ := zg_s hfn
      refine va_iald hx hb hK hP 2 1 rfl rfl h_10 dX1_cheapestBelow_46 ?_
      refine lv_icmp_lt (tgt := 77) hx hb dX1_cheapestBelow_47 (of_decide_eq_true rfl) (fun c_11 => ?_) (fun c_11 => ?_)
      · have hfn := (if_pos c_11).symm.trans hfn
        refine lv_iload hx hb dX1_cheapestBelow_77 (lv_at hl 1 rfl) ?_
        refine lv_istore_n (lv' := [(3, .int s_1.2), (5, .int o_3), (4, .int s_1.2), (0, .ref h0), (1, .int p1), (2, .int p2)]) hx hb dX1_cheapestBelow_79 rfl hl (of_decide_eq_true rfl) rfl (fun ls hl => ?_)
        refine lv_iinc (v := (s_1.2 + 1)) (lv' := [(4, .int (s_1.2 + 1)), (3, .int s_1.2), (5, .int o_3), (0, .ref h0), (1, .int p1), (2, .int p2)]) hx hb dX1_cheapestBelow_80 hl (k := 2) rfl rfl (of_decide_eq_true rfl) rfl (fun ls hl => ?_)
        refine lv_goto (tgt := 5) hx hb dX1_cheapestBelow_83 (of_decide_eq_true rfl) ?_
        exact ih_1 (s_1.2, (s_1.2 + 1)) H locs ls hfn hP hD hS (lv_sub hl [0, 1, 3, 4, 5] rfl)
      have hfn := (if_neg c_11).symm.trans hfn
      refine lv_aload_n hx hb dX1_cheapestBelow_50 rfl (lv_at hl 3 rfl) ?_
      refine va_get (D := (dC, dI)) (ci := 1) (v := .ref r0_4) (C := RX1) (T := TX1) (N := 14) hx hb hts zn_X1_cheapestBelow_X1 hown hK hP 0 rfl rfl 4 (of_decide_eq_true rfl) (hts (.fieldLink RX1 22 "ShortEnough$FullSearch" "prices" "[I") zw_X1_cheapestBelow_246) (fun _ h9 => h9) rfl dX1_cheapestBelow_51 ?_
      refine lv_iload hx hb dX1_cheapestBelow_54 (lv_at hl 1 rfl) ?_
      refine va_iald hx hb hK hP 2 1 rfl rfl h_9 dX1_cheapestBelow_56 ?_
      refine lv_aload_n hx hb dX1_cheapestBelow_57 rfl (lv_at hl 3 rfl) ?_
      refine va_get (D := (dC, dI)) (ci := 1) (v := .ref r0_4) (C := RX1) (T := TX1) (N := 14) hx hb hts zn_X1_cheapestBelow_X1 hown hK hP 0 rfl rfl 4 (of_decide_eq_true rfl) (hts (.fieldLink RX1 22 "ShortEnough$FullSearch" "prices" "[I") zw_X1_cheapestBelow_246) (fun _ h9 => h9) rfl dX1_cheapestBelow_58 ?_
      refine lv_iload_n hx hb dX1_cheapestBelow_61 rfl (lv_at hl 2 rfl) ?_
      refine va_iald hx hb hK hP 2 1 rfl rfl h_10 dX1_cheapestBelow_62 ?_
      refine lv_icmp_ne (tgt := 80) hx hb dX1_cheapestBelow_63 (of_decide_eq_true rfl) (fun c_12 => ?_) (fun c_12 => ?_)
      · have hfn := (if_neg c_12).symm.trans hfn
        refine lv_iinc (v := (s_1.2 + 1)) (lv' := [(4, .int (s_1.2 + 1)), (5, .int o_3), (3, .int s_1.1), (0, .ref h0), (1, .int p1), (2, .int p2)]) hx hb dX1_cheapestBelow_80 hl (k := 1) rfl rfl (of_decide_eq_true rfl) rfl (fun ls hl => ?_)
        refine lv_goto (tgt := 5) hx hb dX1_cheapestBelow_83 (of_decide_eq_true rfl) ?_
        exact ih_1 (s_1.1, (s_1.2 + 1)) H locs ls hfn hP hD hS (lv_sub hl [0, 2, 3, 4, 5] rfl)
      have hfn := (if_pos c_12).symm.trans hfn
      refine lv_iload hx hb dX1_cheapestBelow_66 (lv_at hl 0 rfl) ?_
      refine lv_aload_n hx hb dX1_cheapestBelow_68 rfl (lv_at hl 3 rfl) ?_
      refine lv_iload_n hx hb dX1_cheapestBelow_69 rfl (lv_at hl 2 rfl) ?_
      refine lv_iload_n hx hb dX1_cheapestBelow_70 rfl (lv_at hl 4 rfl) ?_
      obtain ⟨o_13, hqo_13, hfn⟩ := zb_s hfn
      refine zcVi (ci := 1) (rest := [.int o_3]) (pc' := 74) (ws' := [zV1 h0 r0_0 r0_1 v0_2 v0_3 r0_4 r0_5 v0_6 v0_7 v0_8 v0_9 v0_10 r0_11 r0_12 r0_13, zVi r0_5 k1 n1 f1, zVi r0_4 k2 n2 f2]) hP hK hD hS hA ⟨hx, hb, hml, hown, hts⟩ (zf_X1_errorAt l dC dI h0 s_1.1 p1 r0_0 r0_1 v0_2 v0_3 r0_4 r0_5 v0_6 v0_7 v0_8 v0_9 v0_10 r0_11 r0_12 r0_13 k1 n1 f1 o_13 hqo_13 H.size) (cwV 2 hts gX1_cheapestBelow_X1_errorAt rfl rfl rfl zhd_X1_errorAt ⟨Nat.le_of_ble_eq_true rfl, Nat.le_of_ble_eq_true rfl⟩) [0, 1] rfl (of_decide_eq_true rfl) [0] rfl rfl rfl rfl hl.1 rfl (Nat.le_of_ble_eq_true rfl) dX1_cheapestBelow_71 ⟨Nat.le_of_ble_eq_true rfl, Nat.le_of_ble_eq_true rfl⟩ [some 0, some 1] (of_decide_eq_true rfl) (of_decide_eq_true rfl) rfl rfl rfl (fun H locs hP hD hS => ?_)
      refine lv_icmp_ge (tgt := 80) hx hb dX1_cheapestBelow_74 (of_decide_eq_true rfl) (fun c_17 => ?_) (fun c_17 => ?_)
      · have hfn := (if_pos c_17).symm.trans hfn
        refine lv_iinc (v := (s_1.2 + 1)) (lv' := [(4, .int (s_1.2 + 1)), (5, .int o_3), (3, .int s_1.1), (0, .ref h0), (1, .int p1), (2, .int p2)]) hx hb dX1_cheapestBelow_80 hl (k := 1) rfl rfl (of_decide_eq_true rfl) rfl (fun ls hl => ?_)
        refine lv_goto (tgt := 5) hx hb dX1_cheapestBelow_83 (of_decide_eq_true rfl) ?_
        exact ih_1 (s_1.1, (s_1.2 + 1)) H locs ls hfn hP hD hS (lv_sub hl [0, 2, 3, 4, 5] rfl)
      have hfn := (if_neg c_17).symm.trans hfn
      refine lv_iload hx hb dX1_cheapestBelow_77 (lv_at hl 1 rfl) ?_
      refine lv_istore_n (lv' := [(3, .int s_1.2), (5, .int o_3), (4, .int s_1.2), (0, .ref h0), (1, .int p1), (2, .int p2)]) hx hb dX1_cheapestBelow_79 rfl hl (of_decide_eq_true rfl) rfl (fun ls hl => ?_)
      refine lv_iinc (v := (s_1.2 + 1)) (lv' := [(4, .int (s_1.2 + 1)), (3, .int s_1.2), (5, .int o_3), (0, .ref h0), (1, .int p1), (2, .int p2)]) hx hb dX1_cheapestBelow_80 hl (k := 2) rfl rfl (of_decide_eq_true rfl) rfl (fun ls hl => ?_)
      refine lv_goto (tgt := 5) hx hb dX1_cheapestBelow_83 (of_decide_eq_true rfl) ?_
      exact ih_1 (s_1.2, (s_1.2 + 1)) H locs ls hfn hP hD hS (lv_sub hl [0, 1, 3, 4, 5] rfl)
  exact lp_1 _ ((-1), 0) s.heap [] ls hfn hP hD hS (lv_sub hl [0, 1, 2, 3, 4] rfl)
theorem zn_X1_countAlike_X1 : ∀ w ∈ wsX10, w ∈ wsX1_countAlike := fun _ h => List.mem_cons_of_mem _ (List.mem_append_right _ h)
theorem zw_X1_countAlike_252 : Cond.fieldLink RX1 68 "ShortEnough$FullSearch" "many" "I" ∈ wsX1_countAlike := List.mem_of_getElem? (i := 1) (by decide +kernel)
theorem zw_X1_countAlike_253 : Cond.fieldLink RX1 22 "ShortEnough$FullSearch" "prices" "[I" ∈ wsX1_countAlike := List.mem_of_getElem? (i := 2) (by decide +kernel)
set_option maxHeartbeats 4000000 in
set_option maxRecDepth 100000 in
theorem zf_X1_countAlike (l : Launch) (dC : Nat → ClassId) (dI : Nat → Nat → Nat) (h0 : Nat) (p1 : Int32) (p2 : Int32) (p3 : Int32) (r0_0 : Nat) (r0_1 : Nat) (v0_2 : Int32) (v0_3 : Int32) (r0_4 : Nat) (r0_5 : Nat) (v0_6 : Int32) (v0_7 : Int32) (v0_8 : Int32) (v0_9 : Int32) (v0_10 : Int32) (r0_11 : Nat) (r0_12 : Nat) (r0_13 : Nat) (k1 : Nat) (n1 : Nat) (f1 : Nat → Int32) (k2 : Nat) (n2 : Nat) (f2 : Nat → Int32) (o : Int32) (hfn : fn_X1_countAlike p1 p2 p3 v0_3 v0_6 n1 f1 n2 f2 = some o) (sz : Nat) : zMi l yX1_countAlike wsX1_countAlike ({ frames := 1, cells := 0, slots := 0, locals := 23 }) (dC, dI) vwCl [.ref h0, .int p1, .int p2, .int p3] [zV1 h0 r0_0 r0_1 v0_2 v0_3 r0_4 r0_5 v0_6 v0_7 v0_8 v0_9 v0_10 r0_11 r0_12 r0_13, zVi r0_4 k1 n1 f1, zVi r0_5 k2 n2 f2] [(k1, .int), (k2, .int)] (fun r _ => r = o) [zV1 h0 r0_0 r0_1 v0_2 v0_3 r0_4 r0_5 v0_6 v0_7 v0_8 v0_9 v0_10 r0_11 r0_12 r0_13, zVi r0_4 k1 n1 f1, zVi r0_5 k2 n2 f2] [(k1, .int), (k2, .int)] sz := by
  refine zgoi (cc := cX1_countAlike) (maxL := 6) (ret := (some .int)) (C0 := RX1) (lv0 := [(0, .ref h0), (1, .int p1), (2, .int p2), (3, .int p3)]) zpl_X1 rfl rfl rfl (Nat.le_of_ble_eq_true rfl) ?_
  intro p e s m below meth c A ls Q hx hb hr hts hown hlocks hml hP hK hD hA hS hl hQ
  unfold fn_X1_countAlike at hfn
  refine lv_iconst (v := 0) hx hb dX1_countAlike_0 zci_0 ?_
  refine lv_istore (lv' := [(4, .int 0), (0, .ref h0), (1, .int p1), (2, .int p2), (3, .int p3)]) hx hb dX1_countAlike_1 hl (of_decide_eq_true rfl) rfl (fun ls hl => ?_)
  refine lv_iconst (v := 0) hx hb dX1_countAlike_3 zci_0 ?_
  refine lv_istore (lv' := [(5, .int 0), (4, .int 0), (0, .ref h0), (1, .int p1), (2, .int p2), (3, .int p3)]) hx hb dX1_countAlike_4 hl (of_decide_eq_true rfl) rfl (fun ls hl => ?_)
  obtain ⟨bd_1, ebd_1, hfn⟩ := zl_g hfn
  have lp_1 : ∀ (n : Nat) (s_1 : Int32 × Int32) (H : Heap) (locs : List Loc) (ls : Array Slot), zl bd_1 n s_1 = some o → va_P (dC, dI) vwCl [zV1 h0 r0_0 r0_1 v0_2 v0_3 r0_4 r0_5 v0_6 v0_7 v0_8 v0_9 v0_10 r0_11 r0_12 r0_13, zVi r0_4 k1 n1 f1, zVi r0_5 k2 n2 f2] H → va_D A [zV1 h0 r0_0 r0_1 v0_2 v0_3 r0_4 r0_5 v0_6 v0_7 v0_8 v0_9 v0_10 r0_11 r0_12 r0_13, zVi r0_4 k1 n1 f1, zVi r0_5 k2 n2 f2] → va_S A s.heap H locs → lv_has ls 6 [(5, .int s_1.2), (4, .int s_1.1), (0, .ref h0), (1, .int p1), (2, .int p2), (3, .int p3)] → W p l e (headSpec wsX1_countAlike ({ frames := 1, cells := 0, slots := 0, locals := 23 })).room s m ([.ref h0, .int p1, .int p2, .int p3] : List Value).toArray below meth c H locs 0 0 Q (F0 m 6 ls []) := by
    intro n
    induction n with
    | zero => exact fun _ _ _ _ hfn => (zl_0 hfn).elim
    | succ n ih_1 =>
      intro s_1 H locs ls hfn hP hD hS hl
      have hfn := zl_s ebd_1 hfn
      refine lv_iload hx hb dX1_countAlike_6 (lv_at hl 0 rfl) ?_
      refine lv_aload_n hx hb dX1_countAlike_8 rfl (lv_at hl 2 rfl) ?_
      refine va_get (D := (dC, dI)) (ci := 1) (v := .int v0_6) (C := RX1) (T := TX1) (N := 14) hx hb hts zn_X1_countAlike_X1 hown hK hP 0 rfl rfl 6 (of_decide_eq_true rfl) (hts (.fieldLink RX1 68 "ShortEnough$FullSearch" "many" "I") zw_X1_countAlike_252) (fun _ h9 => h9) rfl dX1_countAlike_9 ?_
      refine lv_icmp_ge (tgt := 53) hx hb dX1_countAlike_12 (of_decide_eq_true rfl) (fun c_2 => ?_) (fun c_2 => ?_)
      · have hfn := (if_pos c_2).symm.trans hfn
        refine lv_iload hx hb dX1_countAlike_53 (lv_at hl 1 rfl) ?_
        have ho := Option.some.inj hfn
        subst ho
        exact zri hx hb hr hK hP hD hS hQ rfl hlocks dX1_countAlike_55
      have hfn := (if_neg c_2).symm.trans hfn
      refine lv_iload hx hb dX1_countAlike_15 (lv_at hl 1 rfl) ?_
      refine lv_aload_n hx hb dX1_countAlike_17 rfl (lv_at hl 2 rfl) ?_
      refine va_get (D := (dC, dI)) (ci := 1) (v := .ref r0_4) (C := RX1) (T := TX1) (N := 14) hx hb hts zn_X1_countAlike_X1 hown hK hP 0 rfl rfl 4 (of_decide_eq_true rfl) (hts (.fieldLink RX1 22 "ShortEnough$FullSearch" "prices" "[I") zw_X1_countAlike_253) (fun _ h9 => h9) rfl dX1_countAlike_18 ?_
      refine lv_iload hx hb dX1_countAlike_21 (lv_at hl 0 rfl) ?_
      obtain ⟨h_3, hfn⟩ := zg_s hfn
      refine va_iald hx hb hK hP 1 0 rfl rfl h_3 dX1_countAlike_23 ?_
      refine lv_iload_n hx hb dX1_countAlike_24 rfl (lv_at hl 4 rfl) ?_
      refine lv_icmp_ne (tgt := 43) hx hb dX1_countAlike_25 (of_decide_eq_true rfl) (fun c_4 => ?_) (fun c_4 => ?_)
      · have hfn := (if_neg c_4).symm.trans hfn
        refine lv_iconst (v := 0) hx hb dX1_countAlike_43 zci_0 ?_
        refine lv_iadd hx hb dX1_countAlike_44 ?_
        refine lv_istore (lv' := [(4, .int (s_1.1 + 0)), (5, .int s_1.2), (0, .ref h0), (1, .int p1), (2, .int p2), (3, .int p3)]) hx hb dX1_countAlike_45 hl (of_decide_eq_true rfl) rfl (fun ls hl => ?_)
        refine lv_iinc (v := (s_1.2 + 1)) (lv' := [(5, .int (s_1.2 + 1)), (4, .int (s_1.1 + 0)), (0, .ref h0), (1, .int p1), (2, .int p2), (3, .int p3)]) hx hb dX1_countAlike_47 hl (k := 1) rfl rfl (of_decide_eq_true rfl) rfl (fun ls hl => ?_)
        refine lv_goto (tgt := 6) hx hb dX1_countAlike_50 (of_decide_eq_true rfl) ?_
        exact ih_1 ((s_1.1 + 0), (s_1.2 + 1)) H locs ls hfn hP hD hS (lv_sub hl [0, 1, 2, 3, 4, 5] rfl)
      have hfn := (if_pos c_4).symm.trans hfn
      refine lv_aload_n hx hb dX1_countAlike_28 rfl (lv_at hl 2 rfl) ?_
      refine lv_iload hx hb dX1_countAlike_29 (lv_at hl 0 rfl) ?_
      refine lv_iload_n hx hb dX1_countAlike_31 rfl (lv_at hl 3 rfl) ?_
      obtain ⟨o_5, hqo_5, hfn⟩ := zb_s hfn
      refine zcVi (ci := 1) (rest := [.int s_1.1]) (pc' := 35) (ws' := [zV1 h0 r0_0 r0_1 v0_2 v0_3 r0_4 r0_5 v0_6 v0_7 v0_8 v0_9 v0_10 r0_11 r0_12 r0_13, zVi r0_4 k1 n1 f1, zVi r0_5 k2 n2 f2]) hP hK hD hS hA ⟨hx, hb, hml, hown, hts⟩ (zf_X1_errorAt l dC dI h0 s_1.2 p1 r0_0 r0_1 v0_2 v0_3 r0_4 r0_5 v0_6 v0_7 v0_8 v0_9 v0_10 r0_11 r0_12 r0_13 k2 n2 f2 o_5 hqo_5 H.size) (cwV 2 hts gX1_countAlike_X1_errorAt rfl rfl rfl zhd_X1_errorAt ⟨Nat.le_of_ble_eq_true rfl, Nat.le_of_ble_eq_true rfl⟩) [0, 2] rfl (of_decide_eq_true rfl) [1] rfl rfl rfl rfl hl.1 rfl (Nat.le_of_ble_eq_true rfl) dX1_countAlike_32 ⟨Nat.le_of_ble_eq_true rfl, Nat.le_of_ble_eq_true rfl⟩ [some 0, none, some 1] (of_decide_eq_true rfl) (of_decide_eq_true rfl) rfl rfl rfl (fun H locs hP hD hS => ?_)
      refine lv_iload_n hx hb dX1_countAlike_35 rfl (lv_at hl 5 rfl) ?_
      refine lv_icmp_ne (tgt := 43) hx hb dX1_countAlike_36 (of_decide_eq_true rfl) (fun c_9 => ?_) (fun c_9 => ?_)
      · have hfn := (if_neg c_9).symm.trans hfn
        refine lv_iconst (v := 0) hx hb dX1_countAlike_43 zci_0 ?_
        refine lv_iadd hx hb dX1_countAlike_44 ?_
        refine lv_istore (lv' := [(4, .int (s_1.1 + 0)), (5, .int s_1.2), (0, .ref h0), (1, .int p1), (2, .int p2), (3, .int p3)]) hx hb dX1_countAlike_45 hl (of_decide_eq_true rfl) rfl (fun ls hl => ?_)
        refine lv_iinc (v := (s_1.2 + 1)) (lv' := [(5, .int (s_1.2 + 1)), (4, .int (s_1.1 + 0)), (0, .ref h0), (1, .int p1), (2, .int p2), (3, .int p3)]) hx hb dX1_countAlike_47 hl (k := 1) rfl rfl (of_decide_eq_true rfl) rfl (fun ls hl => ?_)
        refine lv_goto (tgt := 6) hx hb dX1_countAlike_50 (of_decide_eq_true rfl) ?_
        exact ih_1 ((s_1.1 + 0), (s_1.2 + 1)) H locs ls hfn hP hD hS (lv_sub hl [0, 1, 2, 3, 4, 5] rfl)
      have hfn := (if_pos c_9).symm.trans hfn
      refine lv_iconst (v := 1) hx hb dX1_countAlike_39 zci_1 ?_
      refine lv_goto (tgt := 44) hx hb dX1_countAlike_40 (of_decide_eq_true rfl) ?_
      refine lv_iadd hx hb dX1_countAlike_44 ?_
      refine lv_istore (lv' := [(4, .int (s_1.1 + 1)), (5, .int s_1.2), (0, .ref h0), (1, .int p1), (2, .int p2), (3, .int p3)]) hx hb dX1_countAlike_45 hl (of_decide_eq_true rfl) rfl (fun ls hl => ?_)
      refine lv_iinc (v := (s_1.2 + 1)) (lv' := [(5, .int (s_1.2 + 1)), (4, .int (s_1.1 + 1)), (0, .ref h0), (1, .int p1), (2, .int p2), (3, .int p3)]) hx hb dX1_countAlike_47 hl (k := 1) rfl rfl (of_decide_eq_true rfl) rfl (fun ls hl => ?_)
      refine lv_goto (tgt := 6) hx hb dX1_countAlike_50 (of_decide_eq_true rfl) ?_
      exact ih_1 ((s_1.1 + 1), (s_1.2 + 1)) H locs ls hfn hP hD hS (lv_sub hl [0, 1, 2, 3, 4, 5] rfl)
  exact lp_1 _ (0, 0) s.heap [] ls hfn hP hD hS (lv_sub hl [0, 1, 2, 3, 4, 5] rfl)
theorem zn_X1_drawFront_X1 : ∀ w ∈ wsX10, w ∈ wsX1_drawFront := fun _ h => List.mem_cons_of_mem _ (List.mem_append_left _ (List.mem_append_left _ (List.mem_append_right _ h)))
theorem zw_X1_drawFront_238 : Cond.fieldLink RX1 32 "ShortEnough$FullSearch" "frontOf" "I" ∈ wsX1_drawFront := List.mem_of_getElem? (i := 1) (by decide +kernel)
theorem zw_X1_drawFront_239 : Cond.fieldLink RX1 134 "ShortEnough$FullSearch" "frontSize" "I" ∈ wsX1_drawFront := List.mem_of_getElem? (i := 2) (by decide +kernel)
theorem zn_X1_drawFront_X9 : ∀ w ∈ wsX90, w ∈ wsX1_drawFront := fun _ h => List.mem_cons_of_mem _ (List.mem_append_left _ (List.mem_append_right _ h))
theorem zw_X1_drawFront_241 : Cond.fieldLink RX1 48 "ShortEnough$Task" "numbers" "LShortEnough$Numbers;" ∈ wsX1_drawFront := List.mem_of_getElem? (i := 3) (by decide +kernel)
theorem zw_X1_drawFront_242 : Cond.constant RX1 127 (1000001) ∈ wsX1_drawFront := List.mem_of_getElem? (i := 4) (by decide +kernel)
theorem zw_X1_drawFront_243 : Cond.fieldLink RX1 68 "ShortEnough$FullSearch" "many" "I" ∈ wsX1_drawFront := List.mem_of_getElem? (i := 5) (by decide +kernel)
theorem zw_X1_drawFront_247 : Cond.fieldLink RX1 35 "ShortEnough$FullSearch" "frontPrice" "[I" ∈ wsX1_drawFront := List.mem_of_getElem? (i := 6) (by decide +kernel)
theorem zw_X1_drawFront_248 : Cond.fieldLink RX1 22 "ShortEnough$FullSearch" "prices" "[I" ∈ wsX1_drawFront := List.mem_of_getElem? (i := 7) (by decide +kernel)
theorem zw_X1_drawFront_249 : Cond.fieldLink RX1 38 "ShortEnough$FullSearch" "frontError" "[I" ∈ wsX1_drawFront := List.mem_of_getElem? (i := 8) (by decide +kernel)
theorem zw_X1_drawFront_250 : Cond.fieldLink RX1 41 "ShortEnough$FullSearch" "frontMany" "[I" ∈ wsX1_drawFront := List.mem_of_getElem? (i := 9) (by decide +kernel)
set_option maxHeartbeats 4000000 in
set_option maxRecDepth 100000 in
theorem zf_X1_drawFront (l : Launch) (dC : Nat → ClassId) (dI : Nat → Nat → Nat) (h0 : Nat) (h1 : Nat) (p2 : Int32) (r0_0 : Nat) (r0_1 : Nat) (v0_2 : Int32) (v0_3 : Int32) (r0_4 : Nat) (r0_5 : Nat) (v0_6 : Int32) (v0_7 : Int32) (v0_8 : Int32) (v0_9 : Int32) (v0_10 : Int32) (r0_11 : Nat) (r0_12 : Nat) (r0_13 : Nat) (v1_0 : Int32) (r1_1 : Nat) (r1_2 : Nat) (r1_3 : Nat) (r1_4 : Nat) (v1_5 : Int32) (r1_6 : Nat) (r1_7 : Nat) (r1_8 : Nat) (v2_0 : Int32) (v2_1 : Int32) (r2_2 : Nat) (r2_3 : Nat) (r2_4 : Nat) (r2_5 : Nat) (r2_6 : Nat) (r2_7 : Nat) (r2_8 : Nat) (r2_9 : Nat) (k3 : Nat) (f3 : Nat → Int32) (k4 : Nat) (n4 : Nat) (f4 : Nat → Int32) (k5 : Nat) (n5 : Nat) (f5 : Nat → Int32) (k6 : Nat) (n6 : Nat) (f6 : Nat → Int32) (k7 : Nat) (n7 : Nat) (f7 : Nat → Int32) (k8 : Nat) (n8 : Nat) (f8 : Nat → Int32) (o : Int32 × Int32 × (Nat → Int32) × (Nat → Int32) × (Nat → Int32)) (hfn : fn_X1_drawFront p2 v0_3 v0_6 v0_9 v0_10 v2_0 f3 n4 f4 n5 f5 n6 f6 n7 f7 n8 f8 = some o) (sz : Nat) : zMv l yX1_drawFront wsX1_drawFront ({ frames := 2, cells := 0, slots := 0, locals := 48 }) (dC, dI) vwCl [.ref h0, .ref h1, .int p2] [zV1 h0 r0_0 r0_1 v0_2 v0_3 r0_4 r0_5 v0_6 v0_7 v0_8 v0_9 v0_10 r0_11 r0_12 r0_13, zV9 h1 v1_0 r1_1 r1_2 r1_3 r1_4 v1_5 r1_6 r1_7 r1_8, zV4 r1_6 v2_0 v2_1 r2_2 r2_3 r2_4 r2_5 r2_6 r2_7 r2_8 r2_9, zVi r2_5 k3 14 f3, zVi r0_5 k4 n4 f4, zVi r0_4 k5 n5 f5, zVi r0_11 k6 n6 f6, zVi r0_12 k7 n7 f7, zVi r0_13 k8 n8 f8] [(k3, .int), (k4, .int), (k5, .int), (k6, .int), (k7, .int), (k8, .int)] (fun _ => True) [zV1 h0 r0_0 r0_1 v0_2 v0_3 r0_4 r0_5 v0_6 v0_7 v0_8 o.2.1 o.1 r0_11 r0_12 r0_13, zV9 h1 v1_0 r1_1 r1_2 r1_3 r1_4 v1_5 r1_6 r1_7 r1_8, zV4 r1_6 v2_0 v2_1 r2_2 r2_3 r2_4 r2_5 r2_6 r2_7 r2_8 r2_9, zVi r2_5 k3 14 f3, zVi r0_5 k4 n4 f4, zVi r0_4 k5 n5 f5, zVi r0_11 k6 n6 o.2.2.1, zVi r0_12 k7 n7 o.2.2.2.1, zVi r0_13 k8 n8 o.2.2.2.2] [(k3, .int), (k4, .int), (k5, .int), (k6, .int), (k7, .int), (k8, .int)] sz := by
  refine zgov (cc := cX1_drawFront) (maxL := 7) (ret := none) (C0 := RX1) (lv0 := [(0, .ref h0), (1, .ref h1), (2, .int p2)]) zpl_X1 rfl rfl rfl (Nat.le_of_ble_eq_true rfl) ?_
  intro p e s m below meth c A ls Q hx hb hr hts hown hlocks hml hP hK hD hA hS hl hQ
  unfold fn_X1_drawFront at hfn
  refine lv_aload_n hx hb dX1_drawFront_0 rfl (lv_at hl 0 rfl) ?_
  refine va_get (D := (dC, dI)) (ci := 1) (v := .int v0_9) (C := RX1) (T := TX1) (N := 14) hx hb hts zn_X1_drawFront_X1 hown hK hP 0 rfl rfl 9 (of_decide_eq_true rfl) (hts (.fieldLink RX1 32 "ShortEnough$FullSearch" "frontOf" "I") zw_X1_drawFront_238) (fun _ h9 => h9) rfl dX1_drawFront_1 ?_
  refine lv_iload_n hx hb dX1_drawFront_4 rfl (lv_at hl 2 rfl) ?_
  refine lv_icmp_ne (tgt := 9) hx hb dX1_drawFront_5 (of_decide_eq_true rfl) (fun c_1 => ?_) (fun c_1 => ?_)
  · have hfn := (if_neg c_1).symm.trans hfn
    refine lv_aload_n hx hb dX1_drawFront_9 rfl (lv_at hl 0 rfl) ?_
    refine lv_iload_n hx hb dX1_drawFront_10 rfl (lv_at hl 2 rfl) ?_
    refine va_put (D := (dC, dI)) (ci := 1) (v := .int p2) (ty := .int) (C := RX1) (T := TX1) (N := 14) hx hb hts zn_X1_drawFront_X1 tyX1 tyX1_ok nmX1 hown hK hP hD hS 0 rfl rfl 9 (of_decide_eq_true rfl) (hts (.fieldLink RX1 32 "ShortEnough$FullSearch" "frontOf" "I") zw_X1_drawFront_238) (fun _ h9 => h9) rfl (tyX1_ok 9 (of_decide_eq_true rfl)) rfl rfl (Nat.le_of_ble_eq_true rfl) dX1_drawFront_11 (fun H locs hP hD hS => ?_)
    have hP : va_P (dC, dI) vwCl [zV1 h0 r0_0 r0_1 v0_2 v0_3 r0_4 r0_5 v0_6 v0_7 v0_8 p2 v0_10 r0_11 r0_12 r0_13, zV9 h1 v1_0 r1_1 r1_2 r1_3 r1_4 v1_5 r1_6 r1_7 r1_8, zV4 r1_6 v2_0 v2_1 r2_2 r2_3 r2_4 r2_5 r2_6 r2_7 r2_8 r2_9, zVi r2_5 k3 14 f3, zVi r0_5 k4 n4 f4, zVi r0_4 k5 n5 f5, zVi r0_11 k6 n6 f6, zVi r0_12 k7 n7 f7, zVi r0_13 k8 n8 f8] H := hP
    have hD := zDW hD hP rfl
    refine lv_aload_n hx hb dX1_drawFront_14 rfl (lv_at hl 0 rfl) ?_
    refine lv_iconst (v := 0) hx hb dX1_drawFront_15 zci_0 ?_
    refine va_put (D := (dC, dI)) (ci := 1) (v := .int 0) (ty := .int) (C := RX1) (T := TX1) (N := 14) hx hb hts zn_X1_drawFront_X1 tyX1 tyX1_ok nmX1 hown hK hP hD hS 0 rfl rfl 10 (of_decide_eq_true rfl) (hts (.fieldLink RX1 134 "ShortEnough$FullSearch" "frontSize" "I") zw_X1_drawFront_239) (fun _ h9 => h9) rfl (tyX1_ok 10 (of_decide_eq_true rfl)) rfl rfl (Nat.le_of_ble_eq_true rfl) dX1_drawFront_16 (fun H locs hP hD hS => ?_)
    have hP : va_P (dC, dI) vwCl [zV1 h0 r0_0 r0_1 v0_2 v0_3 r0_4 r0_5 v0_6 v0_7 v0_8 p2 0 r0_11 r0_12 r0_13, zV9 h1 v1_0 r1_1 r1_2 r1_3 r1_4 v1_5 r1_6 r1_7 r1_8, zV4 r1_6 v2_0 v2_1 r2_2 r2_3 r2_4 r2_5 r2_6 r2_7 r2_8 r2_9, zVi r2_5 k3 14 f3, zVi r0_5 k4 n4 f4, zVi r0_4 k5 n5 f5, zVi r0_11 k6 n6 f6, zVi r0_12 k7 n7 f7, zVi r0_13 k8 n8 f8] H := hP
    have hD := zDW hD hP rfl
    refine lv_aload_n hx hb dX1_drawFront_19 rfl (lv_at hl 1 rfl) ?_
    refine va_get (D := (dC, dI)) (ci := 9) (v := .ref r1_6) (C := RX9) (T := TX9) (N := 9) hx hb hts zn_X1_drawFront_X9 hown hK hP 1 rfl rfl 6 (of_decide_eq_true rfl) (hts (.fieldLink RX1 48 "ShortEnough$Task" "numbers" "LShortEnough$Numbers;") zw_X1_drawFront_241) (fun _ h9 => h9) rfl dX1_drawFront_20 ?_
    refine lv_iload_n hx hb dX1_drawFront_23 rfl (lv_at hl 2 rfl) ?_
    obtain ⟨o_2, hqo_2, hfn⟩ := zb_s hfn
    refine zcVi (ci := 4) (rest := []) (pc' := 27) (ws' := [zV1 h0 r0_0 r0_1 v0_2 v0_3 r0_4 r0_5 v0_6 v0_7 v0_8 p2 0 r0_11 r0_12 r0_13, zV9 h1 v1_0 r1_1 r1_2 r1_3 r1_4 v1_5 r1_6 r1_7 r1_8, zV4 r1_6 v2_0 v2_1 r2_2 r2_3 r2_4 r2_5 r2_6 r2_7 r2_8 r2_9, zVi r2_5 k3 14 f3, zVi r0_5 k4 n4 f4, zVi r0_4 k5 n5 f5, zVi r0_11 k6 n6 f6, zVi r0_12 k7 n7 f7, zVi r0_13 k8 n8 f8]) hP hK hD hS hA ⟨hx, hb, hml, hown, hts⟩ (zf_X4_countAnswers l dC dI r1_6 p2 v2_0 v2_1 r2_2 r2_3 r2_4 r2_5 r2_6 r2_7 r2_8 r2_9 k3 f3 o_2 hqo_2 H.size) (cwV 1 hts gX1_drawFront_X4_countAnswers rfl rfl rfl zhd_X4_countAnswers ⟨Nat.le_of_ble_eq_true rfl, Nat.le_of_ble_eq_true rfl⟩) [2, 3] rfl (of_decide_eq_true rfl) [0] rfl rfl rfl rfl hl.1 rfl (Nat.le_of_ble_eq_true rfl) dX1_drawFront_24 ⟨Nat.le_of_ble_eq_true rfl, Nat.le_of_ble_eq_true rfl⟩ [none, none, some 0, some 1] (of_decide_eq_true rfl) (of_decide_eq_true rfl) rfl rfl rfl (fun H locs hP hD hS => ?_)
    refine lv_istore_n (lv' := [(3, .int o_2), (0, .ref h0), (1, .ref h1), (2, .int p2)]) hx hb dX1_drawFront_27 rfl hl (of_decide_eq_true rfl) rfl (fun ls hl => ?_)
    refine lv_ldc (v := 1000001) hx hb hown (hts (.constant RX1 127 (1000001)) zw_X1_drawFront_242) dX1_drawFront_28 ?_
    refine lv_istore (lv' := [(4, .int 1000001), (3, .int o_2), (0, .ref h0), (1, .ref h1), (2, .int p2)]) hx hb dX1_drawFront_30 hl (of_decide_eq_true rfl) rfl (fun ls hl => ?_)
    refine lv_iconst (v := 0) hx hb dX1_drawFront_32 zci_0 ?_
    refine lv_istore (lv' := [(5, .int 0), (4, .int 1000001), (3, .int o_2), (0, .ref h0), (1, .ref h1), (2, .int p2)]) hx hb dX1_drawFront_33 hl (of_decide_eq_true rfl) rfl (fun ls hl => ?_)
    obtain ⟨bd_6, ebd_6, hfn⟩ := zl_g hfn
    have lp_6 : ∀ (n : Nat) (s_6 : Int32 × Int32 × Int32 × (Nat → Int32) × (Nat → Int32) × (Nat → Int32)) (H : Heap) (locs : List Loc) (ls : Array Slot), zl bd_6 n s_6 = some o → va_P (dC, dI) vwCl [zV1 h0 r0_0 r0_1 v0_2 v0_3 r0_4 r0_5 v0_6 v0_7 v0_8 p2 s_6.2.2.1 r0_11 r0_12 r0_13, zV9 h1 v1_0 r1_1 r1_2 r1_3 r1_4 v1_5 r1_6 r1_7 r1_8, zV4 r1_6 v2_0 v2_1 r2_2 r2_3 r2_4 r2_5 r2_6 r2_7 r2_8 r2_9, zVi r2_5 k3 14 f3, zVi r0_5 k4 n4 f4, zVi r0_4 k5 n5 f5, zVi r0_11 k6 n6 s_6.2.2.2.1, zVi r0_12 k7 n7 s_6.2.2.2.2.1, zVi r0_13 k8 n8 s_6.2.2.2.2.2] H → va_D A [zV1 h0 r0_0 r0_1 v0_2 v0_3 r0_4 r0_5 v0_6 v0_7 v0_8 p2 s_6.2.2.1 r0_11 r0_12 r0_13, zV9 h1 v1_0 r1_1 r1_2 r1_3 r1_4 v1_5 r1_6 r1_7 r1_8, zV4 r1_6 v2_0 v2_1 r2_2 r2_3 r2_4 r2_5 r2_6 r2_7 r2_8 r2_9, zVi r2_5 k3 14 f3, zVi r0_5 k4 n4 f4, zVi r0_4 k5 n5 f5, zVi r0_11 k6 n6 s_6.2.2.2.1, zVi r0_12 k7 n7 s_6.2.2.2.2.1, zVi r0_13 k8 n8 s_6.2.2.2.2.2] → va_S A s.heap H locs → lv_has ls 7 [(5, .int s_6.2.1), (4, .int s_6.1), (3, .int o_2), (0, .ref h0)] → W p l e (headSpec wsX1_drawFront ({ frames := 2, cells := 0, slots := 0, locals := 48 })).room s m ([.ref h0, .ref h1, .int p2] : List Value).toArray below meth c H locs 0 0 Q (F0 m 35 ls []) := by
      intro n
      induction n with
      | zero => exact fun _ _ _ _ hfn => (zl_0 hfn).elim
      | succ n ih_6 =>
        intro s_6 H locs ls hfn hP hD hS hl
        have hfn := zl_s ebd_6 hfn
        refine lv_iload hx hb dX1_drawFront_35 (lv_at hl 0 rfl) ?_
        refine lv_aload_n hx hb dX1_drawFront_37 rfl (lv_at hl 3 rfl) ?_
        refine va_get (D := (dC, dI)) (ci := 1) (v := .int v0_6) (C := RX1) (T := TX1) (N := 14) hx hb hts zn_X1_drawFront_X1 hown hK hP 0 rfl rfl 6 (of_decide_eq_true rfl) (hts (.fieldLink RX1 68 "ShortEnough$FullSearch" "many" "I") zw_X1_drawFront_243) (fun _ h9 => h9) rfl dX1_drawFront_38 ?_
        refine lv_icmp_ge (tgt := 129) hx hb dX1_drawFront_41 (of_decide_eq_true rfl) (fun c_7 => ?_) (fun c_7 => ?_)
        · have hfn := (if_pos c_7).symm.trans hfn
          have ho := Option.some.inj hfn
          subst ho
          exact zrv hx hb hr hK hP hD hS hQ trivial hlocks dX1_drawFront_129
        have hfn := (if_neg c_7).symm.trans hfn
        refine lv_aload_n hx hb dX1_drawFront_44 rfl (lv_at hl 3 rfl) ?_
        refine lv_iload_n hx hb dX1_drawFront_45 rfl (lv_at hl 2 rfl) ?_
        refine lv_iload hx hb dX1_drawFront_46 (lv_at hl 1 rfl) ?_
        obtain ⟨o_8, hqo_8, hfn⟩ := zb_s hfn
        refine zcVi (ci := 1) (rest := []) (pc' := 51) (ws' := [zV1 h0 r0_0 r0_1 v0_2 v0_3 r0_4 r0_5 v0_6 v0_7 v0_8 p2 s_6.2.2.1 r0_11 r0_12 r0_13, zV9 h1 v1_0 r1_1 r1_2 r1_3 r1_4 v1_5 r1_6 r1_7 r1_8, zV4 r1_6 v2_0 v2_1 r2_2 r2_3 r2_4 r2_5 r2_6 r2_7 r2_8 r2_9, zVi r2_5 k3 14 f3, zVi r0_5 k4 n4 f4, zVi r0_4 k5 n5 f5, zVi r0_11 k6 n6 s_6.2.2.2.1, zVi r0_12 k7 n7 s_6.2.2.2.2.1, zVi r0_13 k8 n8 s_6.2.2.2.2.2]) hP hK hD hS hA ⟨hx, hb, hml, hown, hts⟩ (zf_X1_cheapestBelow l dC dI h0 o_2 s_6.1 r0_0 r0_1 v0_2 v0_3 r0_4 r0_5 v0_6 v0_7 v0_8 p2 s_6.2.2.1 r0_11 r0_12 r0_13 k4 n4 f4 k5 n5 f5 o_8 hqo_8 H.size) (cwV 2 hts gX1_drawFront_X1_cheapestBelow rfl rfl rfl zhd_X1_cheapestBelow ⟨Nat.le_of_ble_eq_true rfl, Nat.le_of_ble_eq_true rfl⟩) [0, 4, 5] rfl (of_decide_eq_true rfl) [1, 2] rfl rfl rfl rfl hl.1 rfl (Nat.le_of_ble_eq_true rfl) dX1_drawFront_48 ⟨Nat.le_of_ble_eq_true rfl, Nat.le_of_ble_eq_true rfl⟩ [some 0, none, none, none, some 1, some 2] (of_decide_eq_true rfl) (of_decide_eq_true rfl) rfl rfl rfl (fun H locs hP hD hS => ?_)
        refine lv_istore (lv' := [(6, .int o_8), (5, .int s_6.2.1), (4, .int s_6.1), (3, .int o_2), (0, .ref h0)]) hx hb dX1_drawFront_51 hl (of_decide_eq_true rfl) rfl (fun ls hl => ?_)
        refine lv_iload hx hb dX1_drawFront_53 (lv_at hl 0 rfl) ?_
        refine lv_iconst (v := (-1)) hx hb dX1_drawFront_55 zci_m1 ?_
        refine lv_icmp_ne (tgt := 60) hx hb dX1_drawFront_56 (of_decide_eq_true rfl) (fun c_12 => ?_) (fun c_12 => ?_)
        · have hfn := (if_neg c_12).symm.trans hfn
          refine lv_aload_n hx hb dX1_drawFront_60 rfl (lv_at hl 4 rfl) ?_
          refine lv_iload hx hb dX1_drawFront_61 (lv_at hl 0 rfl) ?_
          refine lv_iload_n hx hb dX1_drawFront_63 rfl (lv_at hl 3 rfl) ?_
          obtain ⟨o_13, hqo_13, hfn⟩ := zb_s hfn
          refine zcVi (ci := 1) (rest := []) (pc' := 67) (ws' := [zV1 h0 r0_0 r0_1 v0_2 v0_3 r0_4 r0_5 v0_6 v0_7 v0_8 p2 s_6.2.2.1 r0_11 r0_12 r0_13, zV9 h1 v1_0 r1_1 r1_2 r1_3 r1_4 v1_5 r1_6 r1_7 r1_8, zV4 r1_6 v2_0 v2_1 r2_2 r2_3 r2_4 r2_5 r2_6 r2_7 r2_8 r2_9, zVi r2_5 k3 14 f3, zVi r0_5 k4 n4 f4, zVi r0_4 k5 n5 f5, zVi r0_11 k6 n6 s_6.2.2.2.1, zVi r0_12 k7 n7 s_6.2.2.2.2.1, zVi r0_13 k8 n8 s_6.2.2.2.2.2]) hP hK hD hS hA ⟨hx, hb, hml, hown, hts⟩ (zf_X1_errorAt l dC dI h0 o_8 o_2 r0_0 r0_1 v0_2 v0_3 r0_4 r0_5 v0_6 v0_7 v0_8 p2 s_6.2.2.1 r0_11 r0_12 r0_13 k4 n4 f4 o_13 hqo_13 H.size) (cwV 2 hts gX1_drawFront_X1_errorAt rfl rfl rfl zhd_X1_errorAt ⟨Nat.le_of_ble_eq_true rfl, Nat.le_of_ble_eq_true rfl⟩) [0, 4] rfl (of_decide_eq_true rfl) [1] rfl rfl rfl rfl hl.1 rfl (Nat.le_of_ble_eq_true rfl) dX1_drawFront_64 ⟨Nat.le_of_ble_eq_true rfl, Nat.le_of_ble_eq_true rfl⟩ [some 0, none, none, none, some 1] (of_decide_eq_true rfl) (of_decide_eq_true rfl) rfl rfl rfl (fun H locs hP hD hS => ?_)
          refine lv_istore (lv' := [(4, .int o_13), (6, .int o_8), (5, .int s_6.2.1), (3, .int o_2), (0, .ref h0)]) hx hb dX1_drawFront_67 hl (of_decide_eq_true rfl) rfl (fun ls hl => ?_)
          refine lv_aload_n hx hb dX1_drawFront_69 rfl (lv_at hl 4 rfl) ?_
          refine va_get (D := (dC, dI)) (ci := 1) (v := .ref r0_11) (C := RX1) (T := TX1) (N := 14) hx hb hts zn_X1_drawFront_X1 hown hK hP 0 rfl rfl 11 (of_decide_eq_true rfl) (hts (.fieldLink RX1 35 "ShortEnough$FullSearch" "frontPrice" "[I") zw_X1_drawFront_247) (fun _ h9 => h9) rfl dX1_drawFront_70 ?_
          refine lv_iload hx hb dX1_drawFront_73 (lv_at hl 2 rfl) ?_
          refine lv_aload_n hx hb dX1_drawFront_75 rfl (lv_at hl 4 rfl) ?_
          refine va_get (D := (dC, dI)) (ci := 1) (v := .ref r0_4) (C := RX1) (T := TX1) (N := 14) hx hb hts zn_X1_drawFront_X1 hown hK hP 0 rfl rfl 4 (of_decide_eq_true rfl) (hts (.fieldLink RX1 22 "ShortEnough$FullSearch" "prices" "[I") zw_X1_drawFront_248) (fun _ h9 => h9) rfl dX1_drawFront_76 ?_
          refine lv_iload hx hb dX1_drawFront_79 (lv_at hl 1 rfl) ?_
          obtain ⟨h_17, hfn⟩ := zg_s hfn
          refine va_iald hx hb hK hP 5 2 rfl rfl h_17 dX1_drawFront_81 ?_
          obtain ⟨h_18, hfn⟩ := zg_s hfn
          refine va_iast hx hb hK hP hD hS 6 3 rfl rfl h_18 dX1_drawFront_82 (fun H locs hP hD hS => ?_)
          obtain ⟨g_19, eg_19⟩ : ∃ g : Nat → Int32, g = (upd s_6.2.2.2.1 s_6.2.1.toNatClampNeg (f5 o_8.toNatClampNeg)) := ⟨_, rfl⟩
          have hfn := zn_s hfn eg_19
          have hP : va_P (dC, dI) vwCl [zV1 h0 r0_0 r0_1 v0_2 v0_3 r0_4 r0_5 v0_6 v0_7 v0_8 p2 s_6.2.2.1 r0_11 r0_12 r0_13, zV9 h1 v1_0 r1_1 r1_2 r1_3 r1_4 v1_5 r1_6 r1_7 r1_8, zV4 r1_6 v2_0 v2_1 r2_2 r2_3 r2_4 r2_5 r2_6 r2_7 r2_8 r2_9, zVi r2_5 k3 14 f3, zVi r0_5 k4 n4 f4, zVi r0_4 k5 n5 f5, zVi r0_11 k6 n6 g_19, zVi r0_12 k7 n7 s_6.2.2.2.2.1, zVi r0_13 k8 n8 s_6.2.2.2.2.2] H := by rw [eg_19]; exact hP
          have hD : va_D A [zV1 h0 r0_0 r0_1 v0_2 v0_3 r0_4 r0_5 v0_6 v0_7 v0_8 p2 s_6.2.2.1 r0_11 r0_12 r0_13, zV9 h1 v1_0 r1_1 r1_2 r1_3 r1_4 v1_5 r1_6 r1_7 r1_8, zV4 r1_6 v2_0 v2_1 r2_2 r2_3 r2_4 r2_5 r2_6 r2_7 r2_8 r2_9, zVi r2_5 k3 14 f3, zVi r0_5 k4 n4 f4, zVi r0_4 k5 n5 f5, zVi r0_11 k6 n6 g_19, zVi r0_12 k7 n7 s_6.2.2.2.2.1, zVi r0_13 k8 n8 s_6.2.2.2.2.2] := by rw [eg_19]; exact hD
          refine lv_aload_n hx hb dX1_drawFront_83 rfl (lv_at hl 4 rfl) ?_
          refine va_get (D := (dC, dI)) (ci := 1) (v := .ref r0_12) (C := RX1) (T := TX1) (N := 14) hx hb hts zn_X1_drawFront_X1 hown hK hP 0 rfl rfl 12 (of_decide_eq_true rfl) (hts (.fieldLink RX1 38 "ShortEnough$FullSearch" "frontError" "[I") zw_X1_drawFront_249) (fun _ h9 => h9) rfl dX1_drawFront_84 ?_
          refine lv_iload hx hb dX1_drawFront_87 (lv_at hl 2 rfl) ?_
          refine lv_iload hx hb dX1_drawFront_89 (lv_at hl 0 rfl) ?_
          obtain ⟨h_20, hfn⟩ := zg_s hfn
          refine va_iast hx hb hK hP hD hS 7 4 rfl rfl h_20 dX1_drawFront_91 (fun H locs hP hD hS => ?_)
          have hP : va_P (dC, dI) vwCl [zV1 h0 r0_0 r0_1 v0_2 v0_3 r0_4 r0_5 v0_6 v0_7 v0_8 p2 s_6.2.2.1 r0_11 r0_12 r0_13, zV9 h1 v1_0 r1_1 r1_2 r1_3 r1_4 v1_5 r1_6 r1_7 r1_8, zV4 r1_6 v2_0 v2_1 r2_2 r2_3 r2_4 r2_5 r2_6 r2_7 r2_8 r2_9, zVi r2_5 k3 14 f3, zVi r0_5 k4 n4 f4, zVi r0_4 k5 n5 f5, zVi r0_11 k6 n6 g_19, zVi r0_12 k7 n7 (upd s_6.2.2.2.2.1 s_6.2.1.toNatClampNeg o_13), zVi r0_13 k8 n8 s_6.2.2.2.2.2] H := hP
          have hD := zDW hD hP rfl
          refine lv_aload_n hx hb dX1_drawFront_92 rfl (lv_at hl 4 rfl) ?_
          refine va_get (D := (dC, dI)) (ci := 1) (v := .ref r0_13) (C := RX1) (T := TX1) (N := 14) hx hb hts zn_X1_drawFront_X1 hown hK hP 0 rfl rfl 13 (of_decide_eq_true rfl) (hts (.fieldLink RX1 41 "ShortEnough$FullSearch" "frontMany" "[I") zw_X1_drawFront_250) (fun _ h9 => h9) rfl dX1_drawFront_93 ?_
          refine lv_iload hx hb dX1_drawFront_96 (lv_at hl 2 rfl) ?_
          refine lv_aload_n hx hb dX1_drawFront_98 rfl (lv_at hl 4 rfl) ?_
          refine lv_iload_n hx hb dX1_drawFront_99 rfl (lv_at hl 3 rfl) ?_
          refine lv_aload_n hx hb dX1_drawFront_100 rfl (lv_at hl 4 rfl) ?_
          refine va_get (D := (dC, dI)) (ci := 1) (v := .ref r0_4) (C := RX1) (T := TX1) (N := 14) hx hb hts zn_X1_drawFront_X1 hown hK hP 0 rfl rfl 4 (of_decide_eq_true rfl) (hts (.fieldLink RX1 22 "ShortEnough$FullSearch" "prices" "[I") zw_X1_drawFront_248) (fun _ h9 => h9) rfl dX1_drawFront_101 ?_
          refine lv_iload hx hb dX1_drawFront_104 (lv_at hl 1 rfl) ?_
          refine va_iald hx hb hK hP 5 2 rfl rfl h_17 dX1_drawFront_106 ?_
          refine lv_iload hx hb dX1_drawFront_107 (lv_at hl 0 rfl) ?_
          obtain ⟨o_21, hqo_21, hfn⟩ := zb_s hfn
          refine zcVi (ci := 1) (rest := [.int s_6.2.1, .ref r0_13]) (pc' := 112) (ws' := [zV1 h0 r0_0 r0_1 v0_2 v0_3 r0_4 r0_5 v0_6 v0_7 v0_8 p2 s_6.2.2.1 r0_11 r0_12 r0_13, zV9 h1 v1_0 r1_1 r1_2 r1_3 r1_4 v1_5 r1_6 r1_7 r1_8, zV4 r1_6 v2_0 v2_1 r2_2 r2_3 r2_4 r2_5 r2_6 r2_7 r2_8 r2_9, zVi r2_5 k3 14 f3, zVi r0_5 k4 n4 f4, zVi r0_4 k5 n5 f5, zVi r0_11 k6 n6 g_19, zVi r0_12 k7 n7 (upd s_6.2.2.2.2.1 s_6.2.1.toNatClampNeg o_13), zVi r0_13 k8 n8 s_6.2.2.2.2.2]) hP hK hD hS hA ⟨hx, hb, hml, hown, hts⟩ (zf_X1_countAlike l dC dI h0 o_2 (f5 o_8.toNatClampNeg) o_13 r0_0 r0_1 v0_2 v0_3 r0_4 r0_5 v0_6 v0_7 v0_8 p2 s_6.2.2.1 r0_11 r0_12 r0_13 k5 n5 f5 k4 n4 f4 o_21 hqo_21 H.size) (cwV 3 hts gX1_drawFront_X1_countAlike rfl rfl rfl zhd_X1_countAlike ⟨Nat.le_of_ble_eq_true rfl, Nat.le_of_ble_eq_true rfl⟩) [0, 5, 4] rfl (of_decide_eq_true rfl) [2, 1] rfl rfl rfl rfl hl.1 rfl (Nat.le_of_ble_eq_true rfl) dX1_drawFront_109 ⟨Nat.le_of_ble_eq_true rfl, Nat.le_of_ble_eq_true rfl⟩ [some 0, none, none, none, some 2, some 1] (of_decide_eq_true rfl) (of_decide_eq_true rfl) rfl rfl rfl (fun H locs hP hD hS => ?_)
          obtain ⟨h_25, hfn⟩ := zg_s hfn
          refine va_iast hx hb hK hP hD hS 8 5 rfl rfl h_25 dX1_drawFront_112 (fun H locs hP hD hS => ?_)
          have hP : va_P (dC, dI) vwCl [zV1 h0 r0_0 r0_1 v0_2 v0_3 r0_4 r0_5 v0_6 v0_7 v0_8 p2 s_6.2.2.1 r0_11 r0_12 r0_13, zV9 h1 v1_0 r1_1 r1_2 r1_3 r1_4 v1_5 r1_6 r1_7 r1_8, zV4 r1_6 v2_0 v2_1 r2_2 r2_3 r2_4 r2_5 r2_6 r2_7 r2_8 r2_9, zVi r2_5 k3 14 f3, zVi r0_5 k4 n4 f4, zVi r0_4 k5 n5 f5, zVi r0_11 k6 n6 g_19, zVi r0_12 k7 n7 (upd s_6.2.2.2.2.1 s_6.2.1.toNatClampNeg o_13), zVi r0_13 k8 n8 (upd s_6.2.2.2.2.2 s_6.2.1.toNatClampNeg o_21)] H := hP
          have hD := zDW hD hP rfl
          refine lv_aload_n hx hb dX1_drawFront_113 rfl (lv_at hl 4 rfl) ?_
          refine lv_dup hx hb dX1_drawFront_114 rfl ?_
          refine va_get (D := (dC, dI)) (ci := 1) (v := .int s_6.2.2.1) (C := RX1) (T := TX1) (N := 14) hx hb hts zn_X1_drawFront_X1 hown hK hP 0 rfl rfl 10 (of_decide_eq_true rfl) (hts (.fieldLink RX1 134 "ShortEnough$FullSearch" "frontSize" "I") zw_X1_drawFront_239) (fun _ h9 => h9) rfl dX1_drawFront_115 ?_
          refine lv_iconst (v := 1) hx hb dX1_drawFront_118 zci_1 ?_
          refine lv_iadd hx hb dX1_drawFront_119 ?_
          refine va_put (D := (dC, dI)) (ci := 1) (v := .int (s_6.2.2.1 + 1)) (ty := .int) (C := RX1) (T := TX1) (N := 14) hx hb hts zn_X1_drawFront_X1 tyX1 tyX1_ok nmX1 hown hK hP hD hS 0 rfl rfl 10 (of_decide_eq_true rfl) (hts (.fieldLink RX1 134 "ShortEnough$FullSearch" "frontSize" "I") zw_X1_drawFront_239) (fun _ h9 => h9) rfl (tyX1_ok 10 (of_decide_eq_true rfl)) rfl rfl (Nat.le_of_ble_eq_true rfl) dX1_drawFront_120 (fun H locs hP hD hS => ?_)
          have hP : va_P (dC, dI) vwCl [zV1 h0 r0_0 r0_1 v0_2 v0_3 r0_4 r0_5 v0_6 v0_7 v0_8 p2 (s_6.2.2.1 + 1) r0_11 r0_12 r0_13, zV9 h1 v1_0 r1_1 r1_2 r1_3 r1_4 v1_5 r1_6 r1_7 r1_8, zV4 r1_6 v2_0 v2_1 r2_2 r2_3 r2_4 r2_5 r2_6 r2_7 r2_8 r2_9, zVi r2_5 k3 14 f3, zVi r0_5 k4 n4 f4, zVi r0_4 k5 n5 f5, zVi r0_11 k6 n6 g_19, zVi r0_12 k7 n7 (upd s_6.2.2.2.2.1 s_6.2.1.toNatClampNeg o_13), zVi r0_13 k8 n8 (upd s_6.2.2.2.2.2 s_6.2.1.toNatClampNeg o_21)] H := hP
          have hD := zDW hD hP rfl
          refine lv_iinc (v := (s_6.2.1 + 1)) (lv' := [(5, .int (s_6.2.1 + 1)), (4, .int o_13), (6, .int o_8), (3, .int o_2), (0, .ref h0)]) hx hb dX1_drawFront_123 hl (k := 2) rfl rfl (of_decide_eq_true rfl) rfl (fun ls hl => ?_)
          refine lv_goto (tgt := 35) hx hb dX1_drawFront_126 (of_decide_eq_true rfl) ?_
          exact ih_6 (o_13, (s_6.2.1 + 1), (s_6.2.2.1 + 1), g_19, (upd s_6.2.2.2.2.1 s_6.2.1.toNatClampNeg o_13), (upd s_6.2.2.2.2.2 s_6.2.1.toNatClampNeg o_21)) H locs ls hfn hP hD hS (lv_sub hl [0, 1, 3, 4] rfl)
        have hfn := (if_pos c_12).symm.trans hfn
        have ho := Option.some.inj hfn
        subst ho
        exact zrv hx hb hr hK hP hD hS hQ trivial hlocks dX1_drawFront_59
    exact lp_6 _ (1000001, 0, 0, f6, f7, f8) H locs ls hfn hP hD hS (lv_sub hl [0, 1, 2, 3] rfl)
  have hfn := (if_pos c_1).symm.trans hfn
  have ho := Option.some.inj hfn
  subst ho
  exact zrv hx hb hr hK hP hD hS hQ trivial hlocks dX1_drawFront_8
theorem zn_X2_earlierGroup_X4 : ∀ w ∈ wsX40, w ∈ wsX2_earlierGroup := fun _ h => List.mem_cons_of_mem _ (List.mem_append_left _ (List.mem_append_right _ h))
theorem zw_X2_earlierGroup_261 : Cond.fieldLink RX2 44 "ShortEnough$Numbers" "joined" "[I" ∈ wsX2_earlierGroup := List.mem_of_getElem? (i := 1) (by decide +kernel)
theorem zn_X2_earlierGroup_X2 : ∀ w ∈ wsX20, w ∈ wsX2_earlierGroup := fun _ h => List.mem_cons_of_mem _ (List.mem_append_right _ h)
theorem zw_X2_earlierGroup_263 : Cond.fieldLink RX2 9 "ShortEnough$Groups" "of" "[I" ∈ wsX2_earlierGroup := List.mem_of_getElem? (i := 2) (by decide +kernel)
set_option maxHeartbeats 4000000 in
set_option maxRecDepth 100000 in
theorem zf_X2_earlierGroup (l : Launch) (dC : Nat → ClassId) (dI : Nat → Nat → Nat) (h0 : Nat) (h1 : Nat) (p2 : Int32) (v0_0 : Int32) (v0_1 : Int32) (v0_2 : Int32) (r0_3 : Nat) (r0_4 : Nat) (r0_5 : Nat) (v1_0 : Int32) (v1_1 : Int32) (r1_2 : Nat) (r1_3 : Nat) (r1_4 : Nat) (r1_5 : Nat) (r1_6 : Nat) (r1_7 : Nat) (r1_8 : Nat) (r1_9 : Nat) (k2 : Nat) (f2 : Nat → Int32) (k3 : Nat) (f3 : Nat → Int32) (o : Int32) (hfn : fn_X2_earlierGroup p2 f2 f3 = some o) (sz : Nat) : zMi l yX2_earlierGroup wsX2_earlierGroup ({ frames := 0, cells := 0, slots := 0, locals := 0 }) (dC, dI) vwCl [.ref h0, .ref h1, .int p2] [zV2 h0 v0_0 v0_1 v0_2 r0_3 r0_4 r0_5, zV4 h1 v1_0 v1_1 r1_2 r1_3 r1_4 r1_5 r1_6 r1_7 r1_8 r1_9, zVi r1_7 k2 14 f2, zVi r0_3 k3 14 f3] [(k2, .int), (k3, .int)] (fun r _ => r = o) [zV2 h0 v0_0 v0_1 v0_2 r0_3 r0_4 r0_5, zV4 h1 v1_0 v1_1 r1_2 r1_3 r1_4 r1_5 r1_6 r1_7 r1_8 r1_9, zVi r1_7 k2 14 f2, zVi r0_3 k3 14 f3] [(k2, .int), (k3, .int)] sz := by
  refine zgoi (cc := cX2_earlierGroup) (maxL := 4) (ret := (some .int)) (C0 := RX2) (lv0 := [(0, .ref h0), (1, .ref h1), (2, .int p2)]) zpl_X2 rfl rfl rfl (Nat.le_of_ble_eq_true rfl) ?_
  intro p e s m below meth c A ls Q hx hb hr hts hown hlocks hml hP hK hD hA hS hl hQ
  unfold fn_X2_earlierGroup at hfn
  refine lv_iconst (v := 0) hx hb dX2_earlierGroup_0 zci_0 ?_
  refine lv_istore_n (lv' := [(3, .int 0), (0, .ref h0), (1, .ref h1), (2, .int p2)]) hx hb dX2_earlierGroup_1 rfl hl (of_decide_eq_true rfl) rfl (fun ls hl => ?_)
  obtain ⟨bd_1, ebd_1, hfn⟩ := zl_g hfn
  have lp_1 : ∀ (n : Nat) (s_1 : Int32) (H : Heap) (locs : List Loc) (ls : Array Slot), zl bd_1 n s_1 = some o → va_P (dC, dI) vwCl [zV2 h0 v0_0 v0_1 v0_2 r0_3 r0_4 r0_5, zV4 h1 v1_0 v1_1 r1_2 r1_3 r1_4 r1_5 r1_6 r1_7 r1_8 r1_9, zVi r1_7 k2 14 f2, zVi r0_3 k3 14 f3] H → va_D A [zV2 h0 v0_0 v0_1 v0_2 r0_3 r0_4 r0_5, zV4 h1 v1_0 v1_1 r1_2 r1_3 r1_4 r1_5 r1_6 r1_7 r1_8 r1_9, zVi r1_7 k2 14 f2, zVi r0_3 k3 14 f3] → va_S A s.heap H locs → lv_has ls 4 [(3, .int s_1), (0, .ref h0), (1, .ref h1), (2, .int p2)] → W p l e (headSpec wsX2_earlierGroup ({ frames := 0, cells := 0, slots := 0, locals := 0 })).room s m ([.ref h0, .ref h1, .int p2] : List Value).toArray below meth c H locs 0 0 Q (F0 m 2 ls []) := by
    intro n
    induction n with
    | zero => exact fun _ _ _ _ hfn => (zl_0 hfn).elim
    | succ n ih_1 =>
      intro s_1 H locs ls hfn hP hD hS hl
      have hfn := zl_s ebd_1 hfn
      refine lv_iload_n hx hb dX2_earlierGroup_2 rfl (lv_at hl 0 rfl) ?_
      refine lv_iload_n hx hb dX2_earlierGroup_3 rfl (lv_at hl 3 rfl) ?_
      refine lv_icmp_ge (tgt := 35) hx hb dX2_earlierGroup_4 (of_decide_eq_true rfl) (fun c_2 => ?_) (fun c_2 => ?_)
      · have hfn := (if_pos c_2).symm.trans hfn
        refine lv_iconst (v := (-1)) hx hb dX2_earlierGroup_35 zci_m1 ?_
        have ho := Option.some.inj hfn
        subst ho
        exact zri hx hb hr hK hP hD hS hQ rfl hlocks dX2_earlierGroup_36
      have hfn := (if_neg c_2).symm.trans hfn
      refine lv_aload_n hx hb dX2_earlierGroup_7 rfl (lv_at hl 2 rfl) ?_
      refine va_get (D := (dC, dI)) (ci := 4) (v := .ref r1_7) (C := RX4) (T := TX4) (N := 10) hx hb hts zn_X2_earlierGroup_X4 hown hK hP 1 rfl rfl 7 (of_decide_eq_true rfl) (hts (.fieldLink RX2 44 "ShortEnough$Numbers" "joined" "[I") zw_X2_earlierGroup_261) (fun _ h9 => h9) rfl dX2_earlierGroup_8 ?_
      refine lv_iload_n hx hb dX2_earlierGroup_11 rfl (lv_at hl 0 rfl) ?_
      obtain ⟨h_3, hfn⟩ := zg_s hfn
      refine va_iald hx hb hK hP 2 0 rfl rfl h_3 dX2_earlierGroup_12 ?_
      refine lv_aload_n hx hb dX2_earlierGroup_13 rfl (lv_at hl 2 rfl) ?_
      refine va_get (D := (dC, dI)) (ci := 4) (v := .ref r1_7) (C := RX4) (T := TX4) (N := 10) hx hb hts zn_X2_earlierGroup_X4 hown hK hP 1 rfl rfl 7 (of_decide_eq_true rfl) (hts (.fieldLink RX2 44 "ShortEnough$Numbers" "joined" "[I") zw_X2_earlierGroup_261) (fun _ h9 => h9) rfl dX2_earlierGroup_14 ?_
      refine lv_iload_n hx hb dX2_earlierGroup_17 rfl (lv_at hl 3 rfl) ?_
      obtain ⟨h_4, hfn⟩ := zg_s hfn
      refine va_iald hx hb hK hP 2 0 rfl rfl h_4 dX2_earlierGroup_18 ?_
      refine lv_icmp_ne (tgt := 29) hx hb dX2_earlierGroup_19 (of_decide_eq_true rfl) (fun c_5 => ?_) (fun c_5 => ?_)
      · have hfn := (if_neg c_5).symm.trans hfn
        refine lv_iinc (v := (s_1 + 1)) (lv' := [(3, .int (s_1 + 1)), (0, .ref h0), (1, .ref h1), (2, .int p2)]) hx hb dX2_earlierGroup_29 hl (k := 0) rfl rfl (of_decide_eq_true rfl) rfl (fun ls hl => ?_)
        refine lv_goto (tgt := 2) hx hb dX2_earlierGroup_32 (of_decide_eq_true rfl) ?_
        exact ih_1 (s_1 + 1) H locs ls hfn hP hD hS (lv_sub hl [0, 1, 2, 3] rfl)
      have hfn := (if_pos c_5).symm.trans hfn
      refine lv_aload_n hx hb dX2_earlierGroup_22 rfl (lv_at hl 1 rfl) ?_
      refine va_get (D := (dC, dI)) (ci := 2) (v := .ref r0_3) (C := RX2) (T := TX2) (N := 6) hx hb hts zn_X2_earlierGroup_X2 hown hK hP 0 rfl rfl 3 (of_decide_eq_true rfl) (hts (.fieldLink RX2 9 "ShortEnough$Groups" "of" "[I") zw_X2_earlierGroup_263) (fun _ h9 => h9) rfl dX2_earlierGroup_23 ?_
      refine lv_iload_n hx hb dX2_earlierGroup_26 rfl (lv_at hl 0 rfl) ?_
      refine va_iald hx hb hK hP 3 1 rfl rfl h_3 dX2_earlierGroup_27 ?_
      have ho := Option.some.inj hfn
      subst ho
      exact zri hx hb hr hK hP hD hS hQ rfl hlocks dX2_earlierGroup_28
  exact lp_1 _ 0 s.heap [] ls hfn hP hD hS (lv_sub hl [0, 1, 2, 3] rfl)
theorem zn_X2_fix_X2 : ∀ w ∈ wsX20, w ∈ wsX2_fix := fun _ h => List.mem_cons_of_mem _ (List.mem_append_right _ h)
theorem zw_X2_fix_268 : Cond.fieldLink RX2 15 "ShortEnough$Groups" "fixedAs" "[I" ∈ wsX2_fix := List.mem_of_getElem? (i := 1) (by decide +kernel)
theorem zw_X2_fix_269 : Cond.fieldLink RX2 25 "ShortEnough$Groups" "clash" "Z" ∈ wsX2_fix := List.mem_of_getElem? (i := 2) (by decide +kernel)
set_option maxHeartbeats 4000000 in
set_option maxRecDepth 100000 in
theorem zf_X2_fix (l : Launch) (dC : Nat → ClassId) (dI : Nat → Nat → Nat) (h0 : Nat) (p1 : Int32) (p2 : Int32) (v0_0 : Int32) (v0_1 : Int32) (v0_2 : Int32) (r0_3 : Nat) (r0_4 : Nat) (r0_5 : Nat) (k1 : Nat) (f1 : Nat → Int32) (o : Int32 × (Nat → Int32)) (hfn : fn_X2_fix p1 p2 v0_2 f1 = some o) (sz : Nat) : zMv l yX2_fix wsX2_fix ({ frames := 0, cells := 0, slots := 0, locals := 0 }) (dC, dI) vwCl [.ref h0, .int p1, .int p2] [zV2 h0 v0_0 v0_1 v0_2 r0_3 r0_4 r0_5, zVi r0_4 k1 14 f1] [(k1, .int)] (fun _ => True) [zV2 h0 v0_0 v0_1 o.1 r0_3 r0_4 r0_5, zVi r0_4 k1 14 o.2] [(k1, .int)] sz := by
  refine zgov (cc := cX2_fix) (maxL := 3) (ret := none) (C0 := RX2) (lv0 := [(0, .ref h0), (1, .int p1), (2, .int p2)]) zpl_X2 rfl rfl rfl (Nat.le_of_ble_eq_true rfl) ?_
  intro p e s m below meth c A ls Q hx hb hr hts hown hlocks hml hP hK hD hA hS hl hQ
  unfold fn_X2_fix at hfn
  refine lv_iload_n hx hb dX2_fix_0 rfl (lv_at hl 2 rfl) ?_
  refine lv_iconst (v := (-1)) hx hb dX2_fix_1 zci_m1 ?_
  refine lv_icmp_eq (tgt := 15) hx hb dX2_fix_2 (of_decide_eq_true rfl) (fun c_1 => ?_) (fun c_1 => ?_)
  · have hfn := (if_pos c_1).symm.trans hfn
    have ho := Option.some.inj hfn
    subst ho
    exact zrv hx hb hr hK hP hD hS hQ trivial hlocks dX2_fix_15
  have hfn := (if_neg c_1).symm.trans hfn
  refine lv_aload_n hx hb dX2_fix_5 rfl (lv_at hl 0 rfl) ?_
  refine va_get (D := (dC, dI)) (ci := 2) (v := .ref r0_4) (C := RX2) (T := TX2) (N := 6) hx hb hts zn_X2_fix_X2 hown hK hP 0 rfl rfl 4 (of_decide_eq_true rfl) (hts (.fieldLink RX2 15 "ShortEnough$Groups" "fixedAs" "[I") zw_X2_fix_268) (fun _ h9 => h9) rfl dX2_fix_6 ?_
  refine lv_iload_n hx hb dX2_fix_9 rfl (lv_at hl 1 rfl) ?_
  obtain ⟨h_2, hfn⟩ := zg_s hfn
  refine va_iald hx hb hK hP 1 0 rfl rfl h_2 dX2_fix_10 ?_
  refine lv_iload_n hx hb dX2_fix_11 rfl (lv_at hl 2 rfl) ?_
  refine lv_icmp_ne (tgt := 16) hx hb dX2_fix_12 (of_decide_eq_true rfl) (fun c_3 => ?_) (fun c_3 => ?_)
  · have hfn := (if_neg c_3).symm.trans hfn
    refine lv_aload_n hx hb dX2_fix_16 rfl (lv_at hl 0 rfl) ?_
    refine lv_aload_n hx hb dX2_fix_17 rfl (lv_at hl 0 rfl) ?_
    refine va_get (D := (dC, dI)) (ci := 2) (v := .int v0_2) (C := RX2) (T := TX2) (N := 6) hx hb hts zn_X2_fix_X2 hown hK hP 0 rfl rfl 2 (of_decide_eq_true rfl) (hts (.fieldLink RX2 25 "ShortEnough$Groups" "clash" "Z") zw_X2_fix_269) (fun _ h9 => h9) rfl dX2_fix_18 ?_
    obtain ⟨j_4, ej_4, hfn⟩ := zj_g hfn
    have jp_4 : ∀ (s_4 : Int32) (H : Heap) (locs : List Loc) (ls : Array Slot), j_4 s_4 = some o → va_P (dC, dI) vwCl [zV2 h0 v0_0 v0_1 v0_2 r0_3 r0_4 r0_5, zVi r0_4 k1 14 f1] H → va_D A [zV2 h0 v0_0 v0_1 v0_2 r0_3 r0_4 r0_5, zVi r0_4 k1 14 f1] → va_S A s.heap H locs → lv_has ls 3 [(0, .ref h0), (1, .int p1), (2, .int p2)] → W p l e (headSpec wsX2_fix ({ frames := 0, cells := 0, slots := 0, locals := 0 })).room s m ([.ref h0, .int p1, .int p2] : List Value).toArray below meth c H locs 0 0 Q (F0 m 39 ls [.int s_4, .ref h0]) := by
      intro s_4 H locs ls hfn hP hD hS hl
      have hfn := zj_s ej_4 hfn
      obtain ⟨h_5, hfn⟩ := zt_s hfn
      refine va_put (D := (dC, dI)) (ci := 2) (v := .int s_4) (ty := .boolean) (C := RX2) (T := TX2) (N := 6) hx hb hts zn_X2_fix_X2 tyX2 tyX2_ok nmX2 hown hK hP hD hS 0 rfl rfl 2 (of_decide_eq_true rfl) (hts (.fieldLink RX2 25 "ShortEnough$Groups" "clash" "Z") zw_X2_fix_269) (fun _ h9 => h9) rfl (by decide +kernel) h_5 (zfit h_5) (Nat.le_of_ble_eq_true rfl) dX2_fix_39 (fun H locs hP hD hS => ?_)
      have hP : va_P (dC, dI) vwCl [zV2 h0 v0_0 v0_1 s_4 r0_3 r0_4 r0_5, zVi r0_4 k1 14 f1] H := hP
      have hD := zDW hD hP rfl
      refine lv_aload_n hx hb dX2_fix_42 rfl (lv_at hl 0 rfl) ?_
      refine va_get (D := (dC, dI)) (ci := 2) (v := .ref r0_4) (C := RX2) (T := TX2) (N := 6) hx hb hts zn_X2_fix_X2 hown hK hP 0 rfl rfl 4 (of_decide_eq_true rfl) (hts (.fieldLink RX2 15 "ShortEnough$Groups" "fixedAs" "[I") zw_X2_fix_268) (fun _ h9 => h9) rfl dX2_fix_43 ?_
      refine lv_iload_n hx hb dX2_fix_46 rfl (lv_at hl 1 rfl) ?_
      refine lv_aload_n hx hb dX2_fix_47 rfl (lv_at hl 0 rfl) ?_
      refine va_get (D := (dC, dI)) (ci := 2) (v := .ref r0_4) (C := RX2) (T := TX2) (N := 6) hx hb hts zn_X2_fix_X2 hown hK hP 0 rfl rfl 4 (of_decide_eq_true rfl) (hts (.fieldLink RX2 15 "ShortEnough$Groups" "fixedAs" "[I") zw_X2_fix_268) (fun _ h9 => h9) rfl dX2_fix_48 ?_
      refine lv_iload_n hx hb dX2_fix_51 rfl (lv_at hl 1 rfl) ?_
      obtain ⟨h_6, hfn⟩ := zg_s hfn
      refine va_iald hx hb hK hP 1 0 rfl rfl h_6 dX2_fix_52 ?_
      refine lv_iconst (v := (-1)) hx hb dX2_fix_53 zci_m1 ?_
      refine lv_icmp_ne (tgt := 61) hx hb dX2_fix_54 (of_decide_eq_true rfl) (fun c_7 => ?_) (fun c_7 => ?_)
      · have hfn := (if_neg c_7).symm.trans hfn
        refine lv_bipush (v := (-2)) hx hb dX2_fix_61 zcb_m2 ?_
        refine va_iast hx hb hK hP hD hS 1 0 rfl rfl h_6 dX2_fix_63 (fun H locs hP hD hS => ?_)
        have hP : va_P (dC, dI) vwCl [zV2 h0 v0_0 v0_1 s_4 r0_3 r0_4 r0_5, zVi r0_4 k1 14 (upd f1 p1.toNatClampNeg (-2))] H := hP
        have hD := zDW hD hP rfl
        have ho := Option.some.inj hfn
        subst ho
        exact zrv hx hb hr hK hP hD hS hQ trivial hlocks dX2_fix_64
      have hfn := (if_pos c_7).symm.trans hfn
      refine lv_iload_n hx hb dX2_fix_57 rfl (lv_at hl 2 rfl) ?_
      refine lv_goto (tgt := 63) hx hb dX2_fix_58 (of_decide_eq_true rfl) ?_
      refine va_iast hx hb hK hP hD hS 1 0 rfl rfl h_6 dX2_fix_63 (fun H locs hP hD hS => ?_)
      have hP : va_P (dC, dI) vwCl [zV2 h0 v0_0 v0_1 s_4 r0_3 r0_4 r0_5, zVi r0_4 k1 14 (upd f1 p1.toNatClampNeg p2)] H := hP
      have hD := zDW hD hP rfl
      have ho := Option.some.inj hfn
      subst ho
      exact zrv hx hb hr hK hP hD hS hQ trivial hlocks dX2_fix_64
    obtain ⟨j_8, ej_8, hfn⟩ := zj_g hfn
    have jp_8 : ∀ (s_8 : Unit) (H : Heap) (locs : List Loc) (ls : Array Slot), j_8 s_8 = some o → va_P (dC, dI) vwCl [zV2 h0 v0_0 v0_1 v0_2 r0_3 r0_4 r0_5, zVi r0_4 k1 14 f1] H → va_D A [zV2 h0 v0_0 v0_1 v0_2 r0_3 r0_4 r0_5, zVi r0_4 k1 14 f1] → va_S A s.heap H locs → lv_has ls 3 [(0, .ref h0), (1, .int p1), (2, .int p2)] → W p l e (headSpec wsX2_fix ({ frames := 0, cells := 0, slots := 0, locals := 0 })).room s m ([.ref h0, .int p1, .int p2] : List Value).toArray below meth c H locs 0 0 Q (F0 m 34 ls [.ref h0]) := by
      intro s_8 H locs ls hfn hP hD hS hl
      have hfn := zj_s ej_8 hfn
      refine lv_iconst (v := 1) hx hb dX2_fix_34 zci_1 ?_
      refine lv_goto (tgt := 39) hx hb dX2_fix_35 (of_decide_eq_true rfl) ?_
      exact jp_4 1 H locs ls hfn hP hD hS (lv_sub hl [0, 1, 2] rfl)
    refine lv_if_ne (tgt := 34) hx hb dX2_fix_21 (of_decide_eq_true rfl) (fun c_9 => ?_) (fun c_9 => ?_)
    · have hfn := (if_neg c_9).symm.trans hfn
      exact jp_8 () s.heap [] ls hfn hP hD hS (lv_sub hl [0, 1, 2] rfl)
    have hfn := (if_pos c_9).symm.trans hfn
    refine lv_aload_n hx hb dX2_fix_24 rfl (lv_at hl 0 rfl) ?_
    refine va_get (D := (dC, dI)) (ci := 2) (v := .ref r0_4) (C := RX2) (T := TX2) (N := 6) hx hb hts zn_X2_fix_X2 hown hK hP 0 rfl rfl 4 (of_decide_eq_true rfl) (hts (.fieldLink RX2 15 "ShortEnough$Groups" "fixedAs" "[I") zw_X2_fix_268) (fun _ h9 => h9) rfl dX2_fix_25 ?_
    refine lv_iload_n hx hb dX2_fix_28 rfl (lv_at hl 1 rfl) ?_
    refine va_iald hx hb hK hP 1 0 rfl rfl h_2 dX2_fix_29 ?_
    refine lv_iconst (v := (-1)) hx hb dX2_fix_30 zci_m1 ?_
    refine lv_icmp_eq (tgt := 38) hx hb dX2_fix_31 (of_decide_eq_true rfl) (fun c_10 => ?_) (fun c_10 => ?_)
    · have hfn := (if_pos c_10).symm.trans hfn
      refine lv_iconst (v := 0) hx hb dX2_fix_38 zci_0 ?_
      exact jp_4 0 s.heap [] ls hfn hP hD hS (lv_sub hl [0, 1, 2] rfl)
    have hfn := (if_neg c_10).symm.trans hfn
    exact jp_8 () s.heap [] ls hfn hP hD hS (lv_sub hl [0, 1, 2] rfl)
  have hfn := (if_pos c_3).symm.trans hfn
  have ho := Option.some.inj hfn
  subst ho
  exact zrv hx hb hr hK hP hD hS hQ trivial hlocks dX2_fix_15
theorem zn_X2_gather_X2 : ∀ w ∈ wsX20, w ∈ wsX2_gather := fun _ h => List.mem_cons_of_mem _ (List.mem_append_left _ (List.mem_append_right _ h))
theorem zw_X2_gather_255 : Cond.fieldLink RX2 21 "ShortEnough$Groups" "count" "I" ∈ wsX2_gather := List.mem_of_getElem? (i := 1) (by decide +kernel)
theorem zw_X2_gather_256 : Cond.fieldLink RX2 25 "ShortEnough$Groups" "clash" "Z" ∈ wsX2_gather := List.mem_of_getElem? (i := 2) (by decide +kernel)
theorem zn_X2_gather_X4 : ∀ w ∈ wsX40, w ∈ wsX2_gather := fun _ h => List.mem_cons_of_mem _ (List.mem_append_right _ h)
theorem zw_X2_gather_258 : Cond.fieldLink RX2 29 "ShortEnough$Numbers" "count" "I" ∈ wsX2_gather := List.mem_of_getElem? (i := 3) (by decide +kernel)
theorem zw_X2_gather_259 : Cond.fieldLink RX2 9 "ShortEnough$Groups" "of" "[I" ∈ wsX2_gather := List.mem_of_getElem? (i := 4) (by decide +kernel)
theorem zw_X2_gather_264 : Cond.fieldLink RX2 18 "ShortEnough$Groups" "leader" "[I" ∈ wsX2_gather := List.mem_of_getElem? (i := 5) (by decide +kernel)
theorem zw_X2_gather_265 : Cond.fieldLink RX2 15 "ShortEnough$Groups" "fixedAs" "[I" ∈ wsX2_gather := List.mem_of_getElem? (i := 6) (by decide +kernel)
theorem zw_X2_gather_266 : Cond.fieldLink RX2 36 "ShortEnough$Numbers" "fixedAs" "[I" ∈ wsX2_gather := List.mem_of_getElem? (i := 7) (by decide +kernel)
theorem zw_X2_gather_270 : Cond.fieldLink RX2 41 "ShortEnough$Groups" "free" "I" ∈ wsX2_gather := List.mem_of_getElem? (i := 8) (by decide +kernel)
set_option maxHeartbeats 4000000 in
set_option maxRecDepth 100000 in
theorem zf_X2_gather (l : Launch) (dC : Nat → ClassId) (dI : Nat → Nat → Nat) (h0 : Nat) (h1 : Nat) (v0_0 : Int32) (v0_1 : Int32) (v0_2 : Int32) (r0_3 : Nat) (r0_4 : Nat) (r0_5 : Nat) (v1_0 : Int32) (v1_1 : Int32) (r1_2 : Nat) (r1_3 : Nat) (r1_4 : Nat) (r1_5 : Nat) (r1_6 : Nat) (r1_7 : Nat) (r1_8 : Nat) (r1_9 : Nat) (k2 : Nat) (f2 : Nat → Int32) (k3 : Nat) (f3 : Nat → Int32) (k4 : Nat) (f4 : Nat → Int32) (k5 : Nat) (f5 : Nat → Int32) (k6 : Nat) (f6 : Nat → Int32) (o : Int32 × Int32 × Int32 × (Nat → Int32) × (Nat → Int32) × (Nat → Int32)) (hfn : fn_X2_gather v1_0 f2 f3 f4 f5 f6 = some o) (sz : Nat) : zMv l yX2_gather wsX2_gather ({ frames := 1, cells := 0, slots := 0, locals := 23 }) (dC, dI) vwCl [.ref h0, .ref h1] [zV2 h0 v0_0 v0_1 v0_2 r0_3 r0_4 r0_5, zV4 h1 v1_0 v1_1 r1_2 r1_3 r1_4 r1_5 r1_6 r1_7 r1_8 r1_9, zVi r1_7 k2 14 f2, zVi r0_3 k3 14 f3, zVi r0_5 k4 14 f4, zVi r0_4 k5 14 f5, zVi r1_4 k6 14 f6] [(k2, .int), (k3, .int), (k4, .int), (k5, .int), (k6, .int)] (fun _ => True) [zV2 h0 o.1 o.2.1 o.2.2.1 r0_3 r0_4 r0_5, zV4 h1 v1_0 v1_1 r1_2 r1_3 r1_4 r1_5 r1_6 r1_7 r1_8 r1_9, zVi r1_7 k2 14 f2, zVi r0_3 k3 14 o.2.2.2.1, zVi r0_5 k4 14 o.2.2.2.2.1, zVi r0_4 k5 14 o.2.2.2.2.2, zVi r1_4 k6 14 f6] [(k2, .int), (k3, .int), (k4, .int), (k5, .int), (k6, .int)] sz := by
  refine zgov (cc := cX2_gather) (maxL := 3) (ret := none) (C0 := RX2) (lv0 := [(0, .ref h0), (1, .ref h1)]) zpl_X2 rfl rfl rfl (Nat.le_of_ble_eq_true rfl) ?_
  intro p e s m below meth c A ls Q hx hb hr hts hown hlocks hml hP hK hD hA hS hl hQ
  unfold fn_X2_gather at hfn
  refine lv_aload_n hx hb dX2_gather_0 rfl (lv_at hl 0 rfl) ?_
  refine lv_iconst (v := 0) hx hb dX2_gather_1 zci_0 ?_
  refine va_put (D := (dC, dI)) (ci := 2) (v := .int 0) (ty := .int) (C := RX2) (T := TX2) (N := 6) hx hb hts zn_X2_gather_X2 tyX2 tyX2_ok nmX2 hown hK hP hD hS 0 rfl rfl 0 (of_decide_eq_true rfl) (hts (.fieldLink RX2 21 "ShortEnough$Groups" "count" "I") zw_X2_gather_255) (fun _ h9 => h9) rfl (tyX2_ok 0 (of_decide_eq_true rfl)) rfl rfl (Nat.le_of_ble_eq_true rfl) dX2_gather_2 (fun H locs hP hD hS => ?_)
  have hP : va_P (dC, dI) vwCl [zV2 h0 0 v0_1 v0_2 r0_3 r0_4 r0_5, zV4 h1 v1_0 v1_1 r1_2 r1_3 r1_4 r1_5 r1_6 r1_7 r1_8 r1_9, zVi r1_7 k2 14 f2, zVi r0_3 k3 14 f3, zVi r0_5 k4 14 f4, zVi r0_4 k5 14 f5, zVi r1_4 k6 14 f6] H := hP
  have hD := zDW hD hP rfl
  refine lv_aload_n hx hb dX2_gather_5 rfl (lv_at hl 0 rfl) ?_
  refine lv_iconst (v := 0) hx hb dX2_gather_6 zci_0 ?_
  refine va_put (D := (dC, dI)) (ci := 2) (v := .int 0) (ty := .boolean) (C := RX2) (T := TX2) (N := 6) hx hb hts zn_X2_gather_X2 tyX2 tyX2_ok nmX2 hown hK hP hD hS 0 rfl rfl 2 (of_decide_eq_true rfl) (hts (.fieldLink RX2 25 "ShortEnough$Groups" "clash" "Z") zw_X2_gather_256) (fun _ h9 => h9) rfl (tyX2_ok 2 (of_decide_eq_true rfl)) rfl rfl (Nat.le_of_ble_eq_true rfl) dX2_gather_7 (fun H locs hP hD hS => ?_)
  have hP : va_P (dC, dI) vwCl [zV2 h0 0 v0_1 0 r0_3 r0_4 r0_5, zV4 h1 v1_0 v1_1 r1_2 r1_3 r1_4 r1_5 r1_6 r1_7 r1_8 r1_9, zVi r1_7 k2 14 f2, zVi r0_3 k3 14 f3, zVi r0_5 k4 14 f4, zVi r0_4 k5 14 f5, zVi r1_4 k6 14 f6] H := hP
  have hD := zDW hD hP rfl
  refine lv_iconst (v := 0) hx hb dX2_gather_10 zci_0 ?_
  refine lv_istore_n (lv' := [(2, .int 0), (0, .ref h0), (1, .ref h1)]) hx hb dX2_gather_11 rfl hl (of_decide_eq_true rfl) rfl (fun ls hl => ?_)
  obtain ⟨bd_1, ebd_1, hfn⟩ := zl_g hfn
  have lp_1 : ∀ (n : Nat) (s_1 : Int32 × Int32 × Int32 × (Nat → Int32) × (Nat → Int32) × (Nat → Int32)) (H : Heap) (locs : List Loc) (ls : Array Slot), zl bd_1 n s_1 = some o → va_P (dC, dI) vwCl [zV2 h0 s_1.2.1 v0_1 s_1.2.2.1 r0_3 r0_4 r0_5, zV4 h1 v1_0 v1_1 r1_2 r1_3 r1_4 r1_5 r1_6 r1_7 r1_8 r1_9, zVi r1_7 k2 14 f2, zVi r0_3 k3 14 s_1.2.2.2.1, zVi r0_5 k4 14 s_1.2.2.2.2.2, zVi r0_4 k5 14 s_1.2.2.2.2.1, zVi r1_4 k6 14 f6] H → va_D A [zV2 h0 s_1.2.1 v0_1 s_1.2.2.1 r0_3 r0_4 r0_5, zV4 h1 v1_0 v1_1 r1_2 r1_3 r1_4 r1_5 r1_6 r1_7 r1_8 r1_9, zVi r1_7 k2 14 f2, zVi r0_3 k3 14 s_1.2.2.2.1, zVi r0_5 k4 14 s_1.2.2.2.2.2, zVi r0_4 k5 14 s_1.2.2.2.2.1, zVi r1_4 k6 14 f6] → va_S A s.heap H locs → lv_has ls 3 [(2, .int s_1.1), (0, .ref h0), (1, .ref h1)] → W p l e (headSpec wsX2_gather ({ frames := 1, cells := 0, slots := 0, locals := 23 })).room s m ([.ref h0, .ref h1] : List Value).toArray below meth c H locs 0 0 Q (F0 m 12 ls []) := by
    intro n
    induction n with
    | zero => exact fun _ _ _ _ hfn => (zl_0 hfn).elim
    | succ n ih_1 =>
      intro s_1 H locs ls hfn hP hD hS hl
      have hfn := zl_s ebd_1 hfn
      refine lv_iload_n hx hb dX2_gather_12 rfl (lv_at hl 0 rfl) ?_
      refine lv_aload_n hx hb dX2_gather_13 rfl (lv_at hl 2 rfl) ?_
      refine va_get (D := (dC, dI)) (ci := 4) (v := .int v1_0) (C := RX4) (T := TX4) (N := 10) hx hb hts zn_X2_gather_X4 hown hK hP 1 rfl rfl 0 (of_decide_eq_true rfl) (hts (.fieldLink RX2 29 "ShortEnough$Numbers" "count" "I") zw_X2_gather_258) (fun _ h9 => h9) rfl dX2_gather_14 ?_
      refine lv_icmp_ge (tgt := 104) hx hb dX2_gather_17 (of_decide_eq_true rfl) (fun c_2 => ?_) (fun c_2 => ?_)
      · have hfn := (if_pos c_2).symm.trans hfn
        refine lv_aload_n hx hb dX2_gather_104 rfl (lv_at hl 1 rfl) ?_
        refine lv_iconst (v := 0) hx hb dX2_gather_105 zci_0 ?_
        refine va_put (D := (dC, dI)) (ci := 2) (v := .int 0) (ty := .int) (C := RX2) (T := TX2) (N := 6) hx hb hts zn_X2_gather_X2 tyX2 tyX2_ok nmX2 hown hK hP hD hS 0 rfl rfl 1 (of_decide_eq_true rfl) (hts (.fieldLink RX2 41 "ShortEnough$Groups" "free" "I") zw_X2_gather_270) (fun _ h9 => h9) rfl (tyX2_ok 1 (of_decide_eq_true rfl)) rfl rfl (Nat.le_of_ble_eq_true rfl) dX2_gather_106 (fun H locs hP hD hS => ?_)
        have hP : va_P (dC, dI) vwCl [zV2 h0 s_1.2.1 0 s_1.2.2.1 r0_3 r0_4 r0_5, zV4 h1 v1_0 v1_1 r1_2 r1_3 r1_4 r1_5 r1_6 r1_7 r1_8 r1_9, zVi r1_7 k2 14 f2, zVi r0_3 k3 14 s_1.2.2.2.1, zVi r0_5 k4 14 s_1.2.2.2.2.2, zVi r0_4 k5 14 s_1.2.2.2.2.1, zVi r1_4 k6 14 f6] H := hP
        have hD := zDW hD hP rfl
        refine lv_iconst (v := 0) hx hb dX2_gather_109 zci_0 ?_
        refine lv_istore_n (lv' := [(2, .int 0), (0, .ref h0), (1, .ref h1)]) hx hb dX2_gather_110 rfl hl (of_decide_eq_true rfl) rfl (fun ls hl => ?_)
        obtain ⟨bd_3, ebd_3, hfn⟩ := zl_g hfn
        have lp_3 : ∀ (n : Nat) (s_3 : Int32 × Int32) (H : Heap) (locs : List Loc) (ls : Array Slot), zl bd_3 n s_3 = some o → va_P (dC, dI) vwCl [zV2 h0 s_1.2.1 s_3.2 s_1.2.2.1 r0_3 r0_4 r0_5, zV4 h1 v1_0 v1_1 r1_2 r1_3 r1_4 r1_5 r1_6 r1_7 r1_8 r1_9, zVi r1_7 k2 14 f2, zVi r0_3 k3 14 s_1.2.2.2.1, zVi r0_5 k4 14 s_1.2.2.2.2.2, zVi r0_4 k5 14 s_1.2.2.2.2.1, zVi r1_4 k6 14 f6] H → va_D A [zV2 h0 s_1.2.1 s_3.2 s_1.2.2.1 r0_3 r0_4 r0_5, zV4 h1 v1_0 v1_1 r1_2 r1_3 r1_4 r1_5 r1_6 r1_7 r1_8 r1_9, zVi r1_7 k2 14 f2, zVi r0_3 k3 14 s_1.2.2.2.1, zVi r0_5 k4 14 s_1.2.2.2.2.2, zVi r0_4 k5 14 s_1.2.2.2.2.1, zVi r1_4 k6 14 f6] → va_S A s.heap H locs → lv_has ls 3 [(2, .int s_3.1), (0, .ref h0)] → W p l e (headSpec wsX2_gather ({ frames := 1, cells := 0, slots := 0, locals := 23 })).room s m ([.ref h0, .ref h1] : List Value).toArray below meth c H locs 0 0 Q (F0 m 111 ls []) := by
          intro n
          induction n with
          | zero => exact fun _ _ _ _ hfn => (zl_0 hfn).elim
          | succ n ih_3 =>
            intro s_3 H locs ls hfn hP hD hS hl
            have hfn := zl_s ebd_3 hfn
            refine lv_iload_n hx hb dX2_gather_111 rfl (lv_at hl 0 rfl) ?_
            refine lv_aload_n hx hb dX2_gather_112 rfl (lv_at hl 1 rfl) ?_
            refine va_get (D := (dC, dI)) (ci := 2) (v := .int s_1.2.1) (C := RX2) (T := TX2) (N := 6) hx hb hts zn_X2_gather_X2 hown hK hP 0 rfl rfl 0 (of_decide_eq_true rfl) (hts (.fieldLink RX2 21 "ShortEnough$Groups" "count" "I") zw_X2_gather_255) (fun _ h9 => h9) rfl dX2_gather_113 ?_
            refine lv_icmp_ge (tgt := 149) hx hb dX2_gather_116 (of_decide_eq_true rfl) (fun c_4 => ?_) (fun c_4 => ?_)
            · have hfn := (if_pos c_4).symm.trans hfn
              have ho := Option.some.inj hfn
              subst ho
              exact zrv hx hb hr hK hP hD hS hQ trivial hlocks dX2_gather_149
            have hfn := (if_neg c_4).symm.trans hfn
            refine lv_aload_n hx hb dX2_gather_119 rfl (lv_at hl 1 rfl) ?_
            refine lv_dup hx hb dX2_gather_120 rfl ?_
            refine va_get (D := (dC, dI)) (ci := 2) (v := .int s_3.2) (C := RX2) (T := TX2) (N := 6) hx hb hts zn_X2_gather_X2 hown hK hP 0 rfl rfl 1 (of_decide_eq_true rfl) (hts (.fieldLink RX2 41 "ShortEnough$Groups" "free" "I") zw_X2_gather_270) (fun _ h9 => h9) rfl dX2_gather_121 ?_
            refine lv_aload_n hx hb dX2_gather_124 rfl (lv_at hl 1 rfl) ?_
            refine va_get (D := (dC, dI)) (ci := 2) (v := .ref r0_4) (C := RX2) (T := TX2) (N := 6) hx hb hts zn_X2_gather_X2 hown hK hP 0 rfl rfl 4 (of_decide_eq_true rfl) (hts (.fieldLink RX2 15 "ShortEnough$Groups" "fixedAs" "[I") zw_X2_gather_265) (fun _ h9 => h9) rfl dX2_gather_125 ?_
            refine lv_iload_n hx hb dX2_gather_128 rfl (lv_at hl 0 rfl) ?_
            obtain ⟨h_5, hfn⟩ := zg_s hfn
            refine va_iald hx hb hK hP 5 3 rfl rfl h_5 dX2_gather_129 ?_
            refine lv_iconst (v := (-1)) hx hb dX2_gather_130 zci_m1 ?_
            refine lv_icmp_ne (tgt := 138) hx hb dX2_gather_131 (of_decide_eq_true rfl) (fun c_6 => ?_) (fun c_6 => ?_)
            · have hfn := (if_neg c_6).symm.trans hfn
              refine lv_iconst (v := 0) hx hb dX2_gather_138 zci_0 ?_
              refine lv_iadd hx hb dX2_gather_139 ?_
              refine va_put (D := (dC, dI)) (ci := 2) (v := .int (s_3.2 + 0)) (ty := .int) (C := RX2) (T := TX2) (N := 6) hx hb hts zn_X2_gather_X2 tyX2 tyX2_ok nmX2 hown hK hP hD hS 0 rfl rfl 1 (of_decide_eq_true rfl) (hts (.fieldLink RX2 41 "ShortEnough$Groups" "free" "I") zw_X2_gather_270) (fun _ h9 => h9) rfl (tyX2_ok 1 (of_decide_eq_true rfl)) rfl rfl (Nat.le_of_ble_eq_true rfl) dX2_gather_140 (fun H locs hP hD hS => ?_)
              have hP : va_P (dC, dI) vwCl [zV2 h0 s_1.2.1 (s_3.2 + 0) s_1.2.2.1 r0_3 r0_4 r0_5, zV4 h1 v1_0 v1_1 r1_2 r1_3 r1_4 r1_5 r1_6 r1_7 r1_8 r1_9, zVi r1_7 k2 14 f2, zVi r0_3 k3 14 s_1.2.2.2.1, zVi r0_5 k4 14 s_1.2.2.2.2.2, zVi r0_4 k5 14 s_1.2.2.2.2.1, zVi r1_4 k6 14 f6] H := hP
              have hD := zDW hD hP rfl
              refine lv_iinc (v := (s_3.1 + 1)) (lv' := [(2, .int (s_3.1 + 1)), (0, .ref h0)]) hx hb dX2_gather_143 hl (k := 0) rfl rfl (of_decide_eq_true rfl) rfl (fun ls hl => ?_)
              refine lv_goto (tgt := 111) hx hb dX2_gather_146 (of_decide_eq_true rfl) ?_
              exact ih_3 ((s_3.1 + 1), (s_3.2 + 0)) H locs ls hfn hP hD hS (lv_sub hl [0, 1] rfl)
            have hfn := (if_pos c_6).symm.trans hfn
            refine lv_iconst (v := 1) hx hb dX2_gather_134 zci_1 ?_
            refine lv_goto (tgt := 139) hx hb dX2_gather_135 (of_decide_eq_true rfl) ?_
            refine lv_iadd hx hb dX2_gather_139 ?_
            refine va_put (D := (dC, dI)) (ci := 2) (v := .int (s_3.2 + 1)) (ty := .int) (C := RX2) (T := TX2) (N := 6) hx hb hts zn_X2_gather_X2 tyX2 tyX2_ok nmX2 hown hK hP hD hS 0 rfl rfl 1 (of_decide_eq_true rfl) (hts (.fieldLink RX2 41 "ShortEnough$Groups" "free" "I") zw_X2_gather_270) (fun _ h9 => h9) rfl (tyX2_ok 1 (of_decide_eq_true rfl)) rfl rfl (Nat.le_of_ble_eq_true rfl) dX2_gather_140 (fun H locs hP hD hS => ?_)
            have hP : va_P (dC, dI) vwCl [zV2 h0 s_1.2.1 (s_3.2 + 1) s_1.2.2.1 r0_3 r0_4 r0_5, zV4 h1 v1_0 v1_1 r1_2 r1_3 r1_4 r1_5 r1_6 r1_7 r1_8 r1_9, zVi r1_7 k2 14 f2, zVi r0_3 k3 14 s_1.2.2.2.1, zVi r0_5 k4 14 s_1.2.2.2.2.2, zVi r0_4 k5 14 s_1.2.2.2.2.1, zVi r1_4 k6 14 f6] H := hP
            have hD := zDW hD hP rfl
            refine lv_iinc (v := (s_3.1 + 1)) (lv' := [(2, .int (s_3.1 + 1)), (0, .ref h0)]) hx hb dX2_gather_143 hl (k := 0) rfl rfl (of_decide_eq_true rfl) rfl (fun ls hl => ?_)
            refine lv_goto (tgt := 111) hx hb dX2_gather_146 (of_decide_eq_true rfl) ?_
            exact ih_3 ((s_3.1 + 1), (s_3.2 + 1)) H locs ls hfn hP hD hS (lv_sub hl [0, 1] rfl)
        exact lp_3 _ (0, 0) H locs ls hfn hP hD hS (lv_sub hl [0, 1] rfl)
      have hfn := (if_neg c_2).symm.trans hfn
      refine lv_aload_n hx hb dX2_gather_20 rfl (lv_at hl 1 rfl) ?_
      refine va_get (D := (dC, dI)) (ci := 2) (v := .ref r0_3) (C := RX2) (T := TX2) (N := 6) hx hb hts zn_X2_gather_X2 hown hK hP 0 rfl rfl 3 (of_decide_eq_true rfl) (hts (.fieldLink RX2 9 "ShortEnough$Groups" "of" "[I") zw_X2_gather_259) (fun _ h9 => h9) rfl dX2_gather_21 ?_
      refine lv_iload_n hx hb dX2_gather_24 rfl (lv_at hl 0 rfl) ?_
      refine lv_aload_n hx hb dX2_gather_25 rfl (lv_at hl 1 rfl) ?_
      refine lv_aload_n hx hb dX2_gather_26 rfl (lv_at hl 2 rfl) ?_
      refine lv_iload_n hx hb dX2_gather_27 rfl (lv_at hl 0 rfl) ?_
      obtain ⟨o_7, hqo_7, hfn⟩ := zb_s hfn
      refine zcVi (ci := 2) (rest := [.int s_1.1, .ref r0_3]) (pc' := 31) (ws' := [zV2 h0 s_1.2.1 v0_1 s_1.2.2.1 r0_3 r0_4 r0_5, zV4 h1 v1_0 v1_1 r1_2 r1_3 r1_4 r1_5 r1_6 r1_7 r1_8 r1_9, zVi r1_7 k2 14 f2, zVi r0_3 k3 14 s_1.2.2.2.1, zVi r0_5 k4 14 s_1.2.2.2.2.2, zVi r0_4 k5 14 s_1.2.2.2.2.1, zVi r1_4 k6 14 f6]) hP hK hD hS hA ⟨hx, hb, hml, hown, hts⟩ (zf_X2_earlierGroup l dC dI h0 h1 s_1.1 s_1.2.1 v0_1 s_1.2.2.1 r0_3 r0_4 r0_5 v1_0 v1_1 r1_2 r1_3 r1_4 r1_5 r1_6 r1_7 r1_8 r1_9 k2 f2 k3 s_1.2.2.2.1 o_7 hqo_7 H.size) (cwV 2 hts gX2_gather_X2_earlierGroup rfl rfl rfl zhd_X2_earlierGroup ⟨Nat.le_of_ble_eq_true rfl, Nat.le_of_ble_eq_true rfl⟩) [0, 1, 2, 3] rfl (of_decide_eq_true rfl) [0, 1] rfl rfl rfl rfl hl.1 rfl (Nat.le_of_ble_eq_true rfl) dX2_gather_28 ⟨Nat.le_of_ble_eq_true rfl, Nat.le_of_ble_eq_true rfl⟩ [some 0, some 1, some 2, some 3] (of_decide_eq_true rfl) (of_decide_eq_true rfl) rfl rfl rfl (fun H locs hP hD hS => ?_)
      obtain ⟨h_11, hfn⟩ := zg_s hfn
      refine va_iast hx hb hK hP hD hS 3 1 rfl rfl h_11 dX2_gather_31 (fun H locs hP hD hS => ?_)
      have hP : va_P (dC, dI) vwCl [zV2 h0 s_1.2.1 v0_1 s_1.2.2.1 r0_3 r0_4 r0_5, zV4 h1 v1_0 v1_1 r1_2 r1_3 r1_4 r1_5 r1_6 r1_7 r1_8 r1_9, zVi r1_7 k2 14 f2, zVi r0_3 k3 14 (upd s_1.2.2.2.1 s_1.1.toNatClampNeg o_7), zVi r0_5 k4 14 s_1.2.2.2.2.2, zVi r0_4 k5 14 s_1.2.2.2.2.1, zVi r1_4 k6 14 f6] H := hP
      have hD := zDW hD hP rfl
      refine lv_aload_n hx hb dX2_gather_32 rfl (lv_at hl 1 rfl) ?_
      refine va_get (D := (dC, dI)) (ci := 2) (v := .ref r0_3) (C := RX2) (T := TX2) (N := 6) hx hb hts zn_X2_gather_X2 hown hK hP 0 rfl rfl 3 (of_decide_eq_true rfl) (hts (.fieldLink RX2 9 "ShortEnough$Groups" "of" "[I") zw_X2_gather_259) (fun _ h9 => h9) rfl dX2_gather_33 ?_
      refine lv_iload_n hx hb dX2_gather_36 rfl (lv_at hl 0 rfl) ?_
      refine va_iald hx hb hK hP 3 1 rfl rfl h_11 dX2_gather_37 ?_
      refine lv_iconst (v := (-1)) hx hb dX2_gather_38 zci_m1 ?_
      obtain ⟨j_12, ej_12, hfn⟩ := zj_g hfn
      have jp_12 : ∀ (s_12 : Int32 × (Nat → Int32) × (Nat → Int32) × (Nat → Int32)) (H : Heap) (locs : List Loc) (ls : Array Slot), j_12 s_12 = some o → va_P (dC, dI) vwCl [zV2 h0 s_12.1 v0_1 s_1.2.2.1 r0_3 r0_4 r0_5, zV4 h1 v1_0 v1_1 r1_2 r1_3 r1_4 r1_5 r1_6 r1_7 r1_8 r1_9, zVi r1_7 k2 14 f2, zVi r0_3 k3 14 s_12.2.1, zVi r0_5 k4 14 s_12.2.2.2, zVi r0_4 k5 14 s_12.2.2.1, zVi r1_4 k6 14 f6] H → va_D A [zV2 h0 s_12.1 v0_1 s_1.2.2.1 r0_3 r0_4 r0_5, zV4 h1 v1_0 v1_1 r1_2 r1_3 r1_4 r1_5 r1_6 r1_7 r1_8 r1_9, zVi r1_7 k2 14 f2, zVi r0_3 k3 14 s_12.2.1, zVi r0_5 k4 14 s_12.2.2.2, zVi r0_4 k5 14 s_12.2.2.1, zVi r1_4 k6 14 f6] → va_S A s.heap H locs → lv_has ls 3 [(2, .int s_1.1), (0, .ref h0), (1, .ref h1)] → W p l e (headSpec wsX2_gather ({ frames := 1, cells := 0, slots := 0, locals := 23 })).room s m ([.ref h0, .ref h1] : List Value).toArray below meth c H locs 0 0 Q (F0 m 82 ls []) := by
        intro s_12 H locs ls hfn hP hD hS hl
        have hfn := zj_s ej_12 hfn
        refine lv_aload_n hx hb dX2_gather_82 rfl (lv_at hl 1 rfl) ?_
        refine lv_aload_n hx hb dX2_gather_83 rfl (lv_at hl 1 rfl) ?_
        refine va_get (D := (dC, dI)) (ci := 2) (v := .ref r0_3) (C := RX2) (T := TX2) (N := 6) hx hb hts zn_X2_gather_X2 hown hK hP 0 rfl rfl 3 (of_decide_eq_true rfl) (hts (.fieldLink RX2 9 "ShortEnough$Groups" "of" "[I") zw_X2_gather_259) (fun _ h9 => h9) rfl dX2_gather_84 ?_
        refine lv_iload_n hx hb dX2_gather_87 rfl (lv_at hl 0 rfl) ?_
        obtain ⟨h_13, hfn⟩ := zg_s hfn
        refine va_iald hx hb hK hP 3 1 rfl rfl h_13 dX2_gather_88 ?_
        refine lv_aload_n hx hb dX2_gather_89 rfl (lv_at hl 2 rfl) ?_
        refine va_get (D := (dC, dI)) (ci := 4) (v := .ref r1_4) (C := RX4) (T := TX4) (N := 10) hx hb hts zn_X2_gather_X4 hown hK hP 1 rfl rfl 4 (of_decide_eq_true rfl) (hts (.fieldLink RX2 36 "ShortEnough$Numbers" "fixedAs" "[I") zw_X2_gather_266) (fun _ h9 => h9) rfl dX2_gather_90 ?_
        refine lv_iload_n hx hb dX2_gather_93 rfl (lv_at hl 0 rfl) ?_
        refine va_iald hx hb hK hP 6 4 rfl rfl h_13 dX2_gather_94 ?_
        obtain ⟨o_14, hqo_14, hfn⟩ := zb_s hfn
        refine zcVv (ci := 2) (rest := []) (pc' := 98) (ws' := [zV2 h0 s_12.1 v0_1 o_14.1 r0_3 r0_4 r0_5, zV4 h1 v1_0 v1_1 r1_2 r1_3 r1_4 r1_5 r1_6 r1_7 r1_8 r1_9, zVi r1_7 k2 14 f2, zVi r0_3 k3 14 s_12.2.1, zVi r0_5 k4 14 s_12.2.2.2, zVi r0_4 k5 14 o_14.2, zVi r1_4 k6 14 f6]) hP hK hD hS hA ⟨hx, hb, hml, hown, hts⟩ (zf_X2_fix l dC dI h0 (s_12.2.1 s_1.1.toNatClampNeg) (f6 s_1.1.toNatClampNeg) s_12.1 v0_1 s_1.2.2.1 r0_3 r0_4 r0_5 k5 s_12.2.2.1 o_14 hqo_14 H.size) (cwV 2 hts gX2_gather_X2_fix rfl rfl rfl zhd_X2_fix ⟨Nat.le_of_ble_eq_true rfl, Nat.le_of_ble_eq_true rfl⟩) [0, 5] rfl (of_decide_eq_true rfl) [3] rfl rfl rfl rfl hl.1 rfl (Nat.le_of_ble_eq_true rfl) dX2_gather_95 ⟨Nat.le_of_ble_eq_true rfl, Nat.le_of_ble_eq_true rfl⟩ [some 0, none, none, none, none, some 1] (of_decide_eq_true rfl) (of_decide_eq_true rfl) rfl rfl rfl (fun H locs hP hD hS => ?_)
        refine lv_iinc (v := (s_1.1 + 1)) (lv' := [(2, .int (s_1.1 + 1)), (0, .ref h0), (1, .ref h1)]) hx hb dX2_gather_98 hl (k := 0) rfl rfl (of_decide_eq_true rfl) rfl (fun ls hl => ?_)
        refine lv_goto (tgt := 12) hx hb dX2_gather_101 (of_decide_eq_true rfl) ?_
        exact ih_1 ((s_1.1 + 1), s_12.1, o_14.1, s_12.2.1, o_14.2, s_12.2.2.2) H locs ls hfn hP hD hS (lv_sub hl [0, 1, 2] rfl)
      refine lv_icmp_ne (tgt := 82) hx hb dX2_gather_39 (of_decide_eq_true rfl) (fun c_18 => ?_) (fun c_18 => ?_)
      · have hfn := (if_neg c_18).symm.trans hfn
        exact jp_12 (s_1.2.1, (upd s_1.2.2.2.1 s_1.1.toNatClampNeg o_7), s_1.2.2.2.2.1, s_1.2.2.2.2.2) H locs ls hfn hP hD hS (lv_sub hl [0, 1, 2] rfl)
      have hfn := (if_pos c_18).symm.trans hfn
      refine lv_aload_n hx hb dX2_gather_42 rfl (lv_at hl 1 rfl) ?_
      refine va_get (D := (dC, dI)) (ci := 2) (v := .ref r0_3) (C := RX2) (T := TX2) (N := 6) hx hb hts zn_X2_gather_X2 hown hK hP 0 rfl rfl 3 (of_decide_eq_true rfl) (hts (.fieldLink RX2 9 "ShortEnough$Groups" "of" "[I") zw_X2_gather_259) (fun _ h9 => h9) rfl dX2_gather_43 ?_
      refine lv_iload_n hx hb dX2_gather_46 rfl (lv_at hl 0 rfl) ?_
      refine lv_aload_n hx hb dX2_gather_47 rfl (lv_at hl 1 rfl) ?_
      refine va_get (D := (dC, dI)) (ci := 2) (v := .int s_1.2.1) (C := RX2) (T := TX2) (N := 6) hx hb hts zn_X2_gather_X2 hown hK hP 0 rfl rfl 0 (of_decide_eq_true rfl) (hts (.fieldLink RX2 21 "ShortEnough$Groups" "count" "I") zw_X2_gather_255) (fun _ h9 => h9) rfl dX2_gather_48 ?_
      refine va_iast hx hb hK hP hD hS 3 1 rfl rfl h_11 dX2_gather_51 (fun H locs hP hD hS => ?_)
      obtain ⟨g_19, eg_19⟩ : ∃ g : Nat → Int32, g = (upd (upd s_1.2.2.2.1 s_1.1.toNatClampNeg o_7) s_1.1.toNatClampNeg s_1.2.1) := ⟨_, rfl⟩
      have hfn := zn_s hfn eg_19
      have hP : va_P (dC, dI) vwCl [zV2 h0 s_1.2.1 v0_1 s_1.2.2.1 r0_3 r0_4 r0_5, zV4 h1 v1_0 v1_1 r1_2 r1_3 r1_4 r1_5 r1_6 r1_7 r1_8 r1_9, zVi r1_7 k2 14 f2, zVi r0_3 k3 14 g_19, zVi r0_5 k4 14 s_1.2.2.2.2.2, zVi r0_4 k5 14 s_1.2.2.2.2.1, zVi r1_4 k6 14 f6] H := by rw [eg_19]; exact hP
      have hD : va_D A [zV2 h0 s_1.2.1 v0_1 s_1.2.2.1 r0_3 r0_4 r0_5, zV4 h1 v1_0 v1_1 r1_2 r1_3 r1_4 r1_5 r1_6 r1_7 r1_8 r1_9, zVi r1_7 k2 14 f2, zVi r0_3 k3 14 g_19, zVi r0_5 k4 14 s_1.2.2.2.2.2, zVi r0_4 k5 14 s_1.2.2.2.2.1, zVi r1_4 k6 14 f6] := by rw [eg_19]; exact hD
      refine lv_aload_n hx hb dX2_gather_52 rfl (lv_at hl 1 rfl) ?_
      refine va_get (D := (dC, dI)) (ci := 2) (v := .ref r0_5) (C := RX2) (T := TX2) (N := 6) hx hb hts zn_X2_gather_X2 hown hK hP 0 rfl rfl 5 (of_decide_eq_true rfl) (hts (.fieldLink RX2 18 "ShortEnough$Groups" "leader" "[I") zw_X2_gather_264) (fun _ h9 => h9) rfl dX2_gather_53 ?_
      refine lv_aload_n hx hb dX2_gather_56 rfl (lv_at hl 1 rfl) ?_
      refine va_get (D := (dC, dI)) (ci := 2) (v := .int s_1.2.1) (C := RX2) (T := TX2) (N := 6) hx hb hts zn_X2_gather_X2 hown hK hP 0 rfl rfl 0 (of_decide_eq_true rfl) (hts (.fieldLink RX2 21 "ShortEnough$Groups" "count" "I") zw_X2_gather_255) (fun _ h9 => h9) rfl dX2_gather_57 ?_
      refine lv_iload_n hx hb dX2_gather_60 rfl (lv_at hl 0 rfl) ?_
      obtain ⟨h_20, hfn⟩ := zg_s hfn
      refine va_iast hx hb hK hP hD hS 4 2 rfl rfl h_20 dX2_gather_61 (fun H locs hP hD hS => ?_)
      have hP : va_P (dC, dI) vwCl [zV2 h0 s_1.2.1 v0_1 s_1.2.2.1 r0_3 r0_4 r0_5, zV4 h1 v1_0 v1_1 r1_2 r1_3 r1_4 r1_5 r1_6 r1_7 r1_8 r1_9, zVi r1_7 k2 14 f2, zVi r0_3 k3 14 g_19, zVi r0_5 k4 14 (upd s_1.2.2.2.2.2 s_1.2.1.toNatClampNeg s_1.1), zVi r0_4 k5 14 s_1.2.2.2.2.1, zVi r1_4 k6 14 f6] H := hP
      have hD := zDW hD hP rfl
      refine lv_aload_n hx hb dX2_gather_62 rfl (lv_at hl 1 rfl) ?_
      refine va_get (D := (dC, dI)) (ci := 2) (v := .ref r0_4) (C := RX2) (T := TX2) (N := 6) hx hb hts zn_X2_gather_X2 hown hK hP 0 rfl rfl 4 (of_decide_eq_true rfl) (hts (.fieldLink RX2 15 "ShortEnough$Groups" "fixedAs" "[I") zw_X2_gather_265) (fun _ h9 => h9) rfl dX2_gather_63 ?_
      refine lv_aload_n hx hb dX2_gather_66 rfl (lv_at hl 1 rfl) ?_
      refine va_get (D := (dC, dI)) (ci := 2) (v := .int s_1.2.1) (C := RX2) (T := TX2) (N := 6) hx hb hts zn_X2_gather_X2 hown hK hP 0 rfl rfl 0 (of_decide_eq_true rfl) (hts (.fieldLink RX2 21 "ShortEnough$Groups" "count" "I") zw_X2_gather_255) (fun _ h9 => h9) rfl dX2_gather_67 ?_
      refine lv_iconst (v := (-1)) hx hb dX2_gather_70 zci_m1 ?_
      refine va_iast hx hb hK hP hD hS 5 3 rfl rfl h_20 dX2_gather_71 (fun H locs hP hD hS => ?_)
      have hP : va_P (dC, dI) vwCl [zV2 h0 s_1.2.1 v0_1 s_1.2.2.1 r0_3 r0_4 r0_5, zV4 h1 v1_0 v1_1 r1_2 r1_3 r1_4 r1_5 r1_6 r1_7 r1_8 r1_9, zVi r1_7 k2 14 f2, zVi r0_3 k3 14 g_19, zVi r0_5 k4 14 (upd s_1.2.2.2.2.2 s_1.2.1.toNatClampNeg s_1.1), zVi r0_4 k5 14 (upd s_1.2.2.2.2.1 s_1.2.1.toNatClampNeg (-1)), zVi r1_4 k6 14 f6] H := hP
      have hD := zDW hD hP rfl
      refine lv_aload_n hx hb dX2_gather_72 rfl (lv_at hl 1 rfl) ?_
      refine lv_dup hx hb dX2_gather_73 rfl ?_
      refine va_get (D := (dC, dI)) (ci := 2) (v := .int s_1.2.1) (C := RX2) (T := TX2) (N := 6) hx hb hts zn_X2_gather_X2 hown hK hP 0 rfl rfl 0 (of_decide_eq_true rfl) (hts (.fieldLink RX2 21 "ShortEnough$Groups" "count" "I") zw_X2_gather_255) (fun _ h9 => h9) rfl dX2_gather_74 ?_
      refine lv_iconst (v := 1) hx hb dX2_gather_77 zci_1 ?_
      refine lv_iadd hx hb dX2_gather_78 ?_
      refine va_put (D := (dC, dI)) (ci := 2) (v := .int (s_1.2.1 + 1)) (ty := .int) (C := RX2) (T := TX2) (N := 6) hx hb hts zn_X2_gather_X2 tyX2 tyX2_ok nmX2 hown hK hP hD hS 0 rfl rfl 0 (of_decide_eq_true rfl) (hts (.fieldLink RX2 21 "ShortEnough$Groups" "count" "I") zw_X2_gather_255) (fun _ h9 => h9) rfl (tyX2_ok 0 (of_decide_eq_true rfl)) rfl rfl (Nat.le_of_ble_eq_true rfl) dX2_gather_79 (fun H locs hP hD hS => ?_)
      have hP : va_P (dC, dI) vwCl [zV2 h0 (s_1.2.1 + 1) v0_1 s_1.2.2.1 r0_3 r0_4 r0_5, zV4 h1 v1_0 v1_1 r1_2 r1_3 r1_4 r1_5 r1_6 r1_7 r1_8 r1_9, zVi r1_7 k2 14 f2, zVi r0_3 k3 14 g_19, zVi r0_5 k4 14 (upd s_1.2.2.2.2.2 s_1.2.1.toNatClampNeg s_1.1), zVi r0_4 k5 14 (upd s_1.2.2.2.2.1 s_1.2.1.toNatClampNeg (-1)), zVi r1_4 k6 14 f6] H := hP
      have hD := zDW hD hP rfl
      exact jp_12 ((s_1.2.1 + 1), g_19, (upd s_1.2.2.2.2.1 s_1.2.1.toNatClampNeg (-1)), (upd s_1.2.2.2.2.2 s_1.2.1.toNatClampNeg s_1.1)) H locs ls hfn hP hD hS (lv_sub hl [0, 1, 2] rfl)
  exact lp_1 _ (0, 0, 0, f3, f5, f4) H locs ls hfn hP hD hS (lv_sub hl [0, 1, 2] rfl)
theorem zn_X2_isFree_X2 : ∀ w ∈ wsX20, w ∈ wsX2_isFree := fun _ h => List.mem_cons_of_mem _ (List.mem_append_right _ h)
theorem zw_X2_isFree_272 : Cond.fieldLink RX2 21 "ShortEnough$Groups" "count" "I" ∈ wsX2_isFree := List.mem_of_getElem? (i := 1) (by decide +kernel)
theorem zw_X2_isFree_273 : Cond.fieldLink RX2 15 "ShortEnough$Groups" "fixedAs" "[I" ∈ wsX2_isFree := List.mem_of_getElem? (i := 2) (by decide +kernel)
set_option maxHeartbeats 4000000 in
set_option maxRecDepth 100000 in
theorem zf_X2_isFree (l : Launch) (dC : Nat → ClassId) (dI : Nat → Nat → Nat) (h0 : Nat) (p1 : Int32) (v0_0 : Int32) (v0_1 : Int32) (v0_2 : Int32) (r0_3 : Nat) (r0_4 : Nat) (r0_5 : Nat) (k1 : Nat) (f1 : Nat → Int32) (o : Int32) (hfn : fn_X2_isFree p1 v0_0 f1 = some o) (sz : Nat) : zMi l yX2_isFree wsX2_isFree ({ frames := 0, cells := 0, slots := 0, locals := 0 }) (dC, dI) vwCl [.ref h0, .int p1] [zV2 h0 v0_0 v0_1 v0_2 r0_3 r0_4 r0_5, zVi r0_4 k1 14 f1] [(k1, .int)] (fun r _ => r = o ∧ narrow .boolean (.int o) = .int o) [zV2 h0 v0_0 v0_1 v0_2 r0_3 r0_4 r0_5, zVi r0_4 k1 14 f1] [(k1, .int)] sz := by
  refine zgoi (cc := cX2_isFree) (maxL := 2) (ret := (some .boolean)) (C0 := RX2) (lv0 := [(0, .ref h0), (1, .int p1)]) zpl_X2 rfl rfl rfl (Nat.le_of_ble_eq_true rfl) ?_
  intro p e s m below meth c A ls Q hx hb hr hts hown hlocks hml hP hK hD hA hS hl hQ
  unfold fn_X2_isFree at hfn
  refine lv_iload_n hx hb dX2_isFree_0 rfl (lv_at hl 1 rfl) ?_
  refine lv_if_lt (tgt := 26) hx hb dX2_isFree_1 (of_decide_eq_true rfl) (fun c_1 => ?_) (fun c_1 => ?_)
  · have hfn := (if_pos c_1).symm.trans hfn
    refine lv_iconst (v := 0) hx hb dX2_isFree_26 zci_0 ?_
    have ho := Option.some.inj hfn
    subst ho
    exact zrz hx hb hr rfl hK hP hD hS hQ ⟨rfl, zB0⟩ hlocks dX2_isFree_27
  have hfn := (if_neg c_1).symm.trans hfn
  refine lv_iload_n hx hb dX2_isFree_4 rfl (lv_at hl 1 rfl) ?_
  refine lv_aload_n hx hb dX2_isFree_5 rfl (lv_at hl 0 rfl) ?_
  refine va_get (D := (dC, dI)) (ci := 2) (v := .int v0_0) (C := RX2) (T := TX2) (N := 6) hx hb hts zn_X2_isFree_X2 hown hK hP 0 rfl rfl 0 (of_decide_eq_true rfl) (hts (.fieldLink RX2 21 "ShortEnough$Groups" "count" "I") zw_X2_isFree_272) (fun _ h9 => h9) rfl dX2_isFree_6 ?_
  refine lv_icmp_ge (tgt := 26) hx hb dX2_isFree_9 (of_decide_eq_true rfl) (fun c_2 => ?_) (fun c_2 => ?_)
  · have hfn := (if_pos c_2).symm.trans hfn
    refine lv_iconst (v := 0) hx hb dX2_isFree_26 zci_0 ?_
    have ho := Option.some.inj hfn
    subst ho
    exact zrz hx hb hr rfl hK hP hD hS hQ ⟨rfl, zB0⟩ hlocks dX2_isFree_27
  have hfn := (if_neg c_2).symm.trans hfn
  refine lv_aload_n hx hb dX2_isFree_12 rfl (lv_at hl 0 rfl) ?_
  refine va_get (D := (dC, dI)) (ci := 2) (v := .ref r0_4) (C := RX2) (T := TX2) (N := 6) hx hb hts zn_X2_isFree_X2 hown hK hP 0 rfl rfl 4 (of_decide_eq_true rfl) (hts (.fieldLink RX2 15 "ShortEnough$Groups" "fixedAs" "[I") zw_X2_isFree_273) (fun _ h9 => h9) rfl dX2_isFree_13 ?_
  refine lv_iload_n hx hb dX2_isFree_16 rfl (lv_at hl 1 rfl) ?_
  obtain ⟨h_3, hfn⟩ := zg_s hfn
  refine va_iald hx hb hK hP 1 0 rfl rfl h_3 dX2_isFree_17 ?_
  refine lv_iconst (v := (-1)) hx hb dX2_isFree_18 zci_m1 ?_
  refine lv_icmp_ne (tgt := 26) hx hb dX2_isFree_19 (of_decide_eq_true rfl) (fun c_4 => ?_) (fun c_4 => ?_)
  · have hfn := (if_neg c_4).symm.trans hfn
    refine lv_iconst (v := 0) hx hb dX2_isFree_26 zci_0 ?_
    have ho := Option.some.inj hfn
    subst ho
    exact zrz hx hb hr rfl hK hP hD hS hQ ⟨rfl, zB0⟩ hlocks dX2_isFree_27
  have hfn := (if_pos c_4).symm.trans hfn
  refine lv_iconst (v := 1) hx hb dX2_isFree_22 zci_1 ?_
  refine lv_goto (tgt := 27) hx hb dX2_isFree_23 (of_decide_eq_true rfl) ?_
  have ho := Option.some.inj hfn
  subst ho
  exact zrz hx hb hr rfl hK hP hD hS hQ ⟨rfl, zB1⟩ hlocks dX2_isFree_27
theorem zn_X2_leaderOf_X2 : ∀ w ∈ wsX20, w ∈ wsX2_leaderOf := fun _ h => List.mem_cons_of_mem _ (List.mem_append_right _ h)
theorem zw_X2_leaderOf_275 : Cond.fieldLink RX2 21 "ShortEnough$Groups" "count" "I" ∈ wsX2_leaderOf := List.mem_of_getElem? (i := 1) (by decide +kernel)
theorem zw_X2_leaderOf_276 : Cond.fieldLink RX2 18 "ShortEnough$Groups" "leader" "[I" ∈ wsX2_leaderOf := List.mem_of_getElem? (i := 2) (by decide +kernel)
set_option maxHeartbeats 4000000 in
set_option maxRecDepth 100000 in
theorem zf_X2_leaderOf (l : Launch) (dC : Nat → ClassId) (dI : Nat → Nat → Nat) (h0 : Nat) (p1 : Int32) (v0_0 : Int32) (v0_1 : Int32) (v0_2 : Int32) (r0_3 : Nat) (r0_4 : Nat) (r0_5 : Nat) (k1 : Nat) (f1 : Nat → Int32) (o : Int32) (hfn : fn_X2_leaderOf p1 v0_0 f1 = some o) (sz : Nat) : zMi l yX2_leaderOf wsX2_leaderOf ({ frames := 0, cells := 0, slots := 0, locals := 0 }) (dC, dI) vwCl [.ref h0, .int p1] [zV2 h0 v0_0 v0_1 v0_2 r0_3 r0_4 r0_5, zVi r0_5 k1 14 f1] [(k1, .int)] (fun r _ => r = o) [zV2 h0 v0_0 v0_1 v0_2 r0_3 r0_4 r0_5, zVi r0_5 k1 14 f1] [(k1, .int)] sz := by
  refine zgoi (cc := cX2_leaderOf) (maxL := 2) (ret := (some .int)) (C0 := RX2) (lv0 := [(0, .ref h0), (1, .int p1)]) zpl_X2 rfl rfl rfl (Nat.le_of_ble_eq_true rfl) ?_
  intro p e s m below meth c A ls Q hx hb hr hts hown hlocks hml hP hK hD hA hS hl hQ
  unfold fn_X2_leaderOf at hfn
  refine lv_iload_n hx hb dX2_leaderOf_0 rfl (lv_at hl 1 rfl) ?_
  refine lv_if_lt (tgt := 21) hx hb dX2_leaderOf_1 (of_decide_eq_true rfl) (fun c_1 => ?_) (fun c_1 => ?_)
  · have hfn := (if_pos c_1).symm.trans hfn
    refine lv_iconst (v := (-1)) hx hb dX2_leaderOf_21 zci_m1 ?_
    have ho := Option.some.inj hfn
    subst ho
    exact zri hx hb hr hK hP hD hS hQ rfl hlocks dX2_leaderOf_22
  have hfn := (if_neg c_1).symm.trans hfn
  refine lv_iload_n hx hb dX2_leaderOf_4 rfl (lv_at hl 1 rfl) ?_
  refine lv_aload_n hx hb dX2_leaderOf_5 rfl (lv_at hl 0 rfl) ?_
  refine va_get (D := (dC, dI)) (ci := 2) (v := .int v0_0) (C := RX2) (T := TX2) (N := 6) hx hb hts zn_X2_leaderOf_X2 hown hK hP 0 rfl rfl 0 (of_decide_eq_true rfl) (hts (.fieldLink RX2 21 "ShortEnough$Groups" "count" "I") zw_X2_leaderOf_275) (fun _ h9 => h9) rfl dX2_leaderOf_6 ?_
  refine lv_icmp_ge (tgt := 21) hx hb dX2_leaderOf_9 (of_decide_eq_true rfl) (fun c_2 => ?_) (fun c_2 => ?_)
  · have hfn := (if_pos c_2).symm.trans hfn
    refine lv_iconst (v := (-1)) hx hb dX2_leaderOf_21 zci_m1 ?_
    have ho := Option.some.inj hfn
    subst ho
    exact zri hx hb hr hK hP hD hS hQ rfl hlocks dX2_leaderOf_22
  have hfn := (if_neg c_2).symm.trans hfn
  refine lv_aload_n hx hb dX2_leaderOf_12 rfl (lv_at hl 0 rfl) ?_
  refine va_get (D := (dC, dI)) (ci := 2) (v := .ref r0_5) (C := RX2) (T := TX2) (N := 6) hx hb hts zn_X2_leaderOf_X2 hown hK hP 0 rfl rfl 5 (of_decide_eq_true rfl) (hts (.fieldLink RX2 18 "ShortEnough$Groups" "leader" "[I") zw_X2_leaderOf_276) (fun _ h9 => h9) rfl dX2_leaderOf_13 ?_
  refine lv_iload_n hx hb dX2_leaderOf_16 rfl (lv_at hl 1 rfl) ?_
  obtain ⟨h_3, hfn⟩ := zg_s hfn
  refine va_iald hx hb hK hP 1 0 rfl rfl h_3 dX2_leaderOf_17 ?_
  refine lv_goto (tgt := 22) hx hb dX2_leaderOf_18 (of_decide_eq_true rfl) ?_
  have ho := Option.some.inj hfn
  subst ho
  exact zri hx hb hr hK hP hD hS hQ rfl hlocks dX2_leaderOf_22
theorem zn_X3_forget_X3 : ∀ w ∈ wsX30, w ∈ wsX3_forget := fun _ h => List.mem_cons_of_mem _ (List.mem_append_right _ h)
theorem zw_X3_forget_278 : Cond.fieldLink RX3 45 "ShortEnough$LocalSearch" "ready" "Z" ∈ wsX3_forget := List.mem_of_getElem? (i := 1) (by decide +kernel)
set_option maxHeartbeats 4000000 in
set_option maxRecDepth 100000 in
theorem zf_X3_forget (l : Launch) (dC : Nat → ClassId) (dI : Nat → Nat → Nat) (h0 : Nat) (r0_0 : Nat) (r0_1 : Nat) (v0_2 : Int32) (v0_3 : Int32) (r0_4 : Nat) (r0_5 : Nat) (r0_6 : Nat) (r0_7 : Nat) (v0_8 : Int32) (r0_9 : Nat) (v0_10 : Int32) (v0_11 : Int32) (v0_12 : Int32) (v0_13 : Int32) (v0_14 : Int32) (v0_15 : Int32) (o : Int32) (hfn : fn_X3_forget = some o) (sz : Nat) : zMv l yX3_forget wsX3_forget ({ frames := 0, cells := 0, slots := 0, locals := 0 }) (dC, dI) vwCl [.ref h0] [zV3 h0 r0_0 r0_1 v0_2 v0_3 r0_4 r0_5 r0_6 r0_7 v0_8 r0_9 v0_10 v0_11 v0_12 v0_13 v0_14 v0_15] [] (fun _ => True) [zV3 h0 r0_0 r0_1 o v0_3 r0_4 r0_5 r0_6 r0_7 v0_8 r0_9 v0_10 v0_11 v0_12 v0_13 v0_14 v0_15] [] sz := by
  refine zgov (cc := cX3_forget) (maxL := 1) (ret := none) (C0 := RX3) (lv0 := [(0, .ref h0)]) zpl_X3 rfl rfl rfl (Nat.le_of_ble_eq_true rfl) ?_
  intro p e s m below meth c A ls Q hx hb hr hts hown hlocks hml hP hK hD hA hS hl hQ
  unfold fn_X3_forget at hfn
  refine lv_aload_n hx hb dX3_forget_0 rfl (lv_at hl 0 rfl) ?_
  refine lv_iconst (v := 0) hx hb dX3_forget_1 zci_0 ?_
  refine va_put (D := (dC, dI)) (ci := 3) (v := .int 0) (ty := .boolean) (C := RX3) (T := TX3) (N := 16) hx hb hts zn_X3_forget_X3 tyX3 tyX3_ok nmX3 hown hK hP hD hS 0 rfl rfl 2 (of_decide_eq_true rfl) (hts (.fieldLink RX3 45 "ShortEnough$LocalSearch" "ready" "Z") zw_X3_forget_278) (fun _ h9 => h9) rfl (tyX3_ok 2 (of_decide_eq_true rfl)) rfl rfl (Nat.le_of_ble_eq_true rfl) dX3_forget_2 (fun H locs hP hD hS => ?_)
  have hP : va_P (dC, dI) vwCl [zV3 h0 r0_0 r0_1 0 v0_3 r0_4 r0_5 r0_6 r0_7 v0_8 r0_9 v0_10 v0_11 v0_12 v0_13 v0_14 v0_15] H := hP
  have hD := zDW hD hP rfl
  have ho := Option.some.inj hfn
  subst ho
  exact zrv hx hb hr hK hP hD hS hQ trivial hlocks dX3_forget_5
theorem zn_X9_finestFormat_X9 : ∀ w ∈ wsX90, w ∈ wsX9_finestFormat := fun _ h => List.mem_cons_of_mem _ (List.mem_append_right _ h)
theorem zw_X9_finestFormat_282 : Cond.fieldLink RX9 45 "ShortEnough$Task" "formats" "I" ∈ wsX9_finestFormat := List.mem_of_getElem? (i := 1) (by decide +kernel)
theorem zw_X9_finestFormat_283 : Cond.fieldLink RX9 15 "ShortEnough$Task" "step" "[I" ∈ wsX9_finestFormat := List.mem_of_getElem? (i := 2) (by decide +kernel)
set_option maxHeartbeats 4000000 in
set_option maxRecDepth 100000 in
theorem zf_X9_finestFormat (l : Launch) (dC : Nat → ClassId) (dI : Nat → Nat → Nat) (h0 : Nat) (v0_0 : Int32) (r0_1 : Nat) (r0_2 : Nat) (r0_3 : Nat) (r0_4 : Nat) (v0_5 : Int32) (r0_6 : Nat) (r0_7 : Nat) (r0_8 : Nat) (k1 : Nat) (f1 : Nat → Int32) (o : Int32) (hfn : fn_X9_finestFormat v0_0 f1 = some o) (sz : Nat) : zMi l yX9_finestFormat wsX9_finestFormat ({ frames := 0, cells := 0, slots := 0, locals := 0 }) (dC, dI) vwCl [.ref h0] [zV9 h0 v0_0 r0_1 r0_2 r0_3 r0_4 v0_5 r0_6 r0_7 r0_8, zVi r0_2 k1 4 f1] [(k1, .int)] (fun r _ => r = o) [zV9 h0 v0_0 r0_1 r0_2 r0_3 r0_4 v0_5 r0_6 r0_7 r0_8, zVi r0_2 k1 4 f1] [(k1, .int)] sz := by
  refine zgoi (cc := cX9_finestFormat) (maxL := 3) (ret := (some .int)) (C0 := RX9) (lv0 := [(0, .ref h0)]) zpl_X9 rfl rfl rfl (Nat.le_of_ble_eq_true rfl) ?_
  intro p e s m below meth c A ls Q hx hb hr hts hown hlocks hml hP hK hD hA hS hl hQ
  unfold fn_X9_finestFormat at hfn
  refine lv_iconst (v := 0) hx hb dX9_finestFormat_0 zci_0 ?_
  refine lv_istore_n (lv' := [(1, .int 0), (0, .ref h0)]) hx hb dX9_finestFormat_1 rfl hl (of_decide_eq_true rfl) rfl (fun ls hl => ?_)
  refine lv_iconst (v := 1) hx hb dX9_finestFormat_2 zci_1 ?_
  refine lv_istore_n (lv' := [(2, .int 1), (1, .int 0), (0, .ref h0)]) hx hb dX9_finestFormat_3 rfl hl (of_decide_eq_true rfl) rfl (fun ls hl => ?_)
  obtain ⟨bd_1, ebd_1, hfn⟩ := zl_g hfn
  have lp_1 : ∀ (n : Nat) (s_1 : Int32 × Int32) (H : Heap) (locs : List Loc) (ls : Array Slot), zl bd_1 n s_1 = some o → va_P (dC, dI) vwCl [zV9 h0 v0_0 r0_1 r0_2 r0_3 r0_4 v0_5 r0_6 r0_7 r0_8, zVi r0_2 k1 4 f1] H → va_D A [zV9 h0 v0_0 r0_1 r0_2 r0_3 r0_4 v0_5 r0_6 r0_7 r0_8, zVi r0_2 k1 4 f1] → va_S A s.heap H locs → lv_has ls 3 [(2, .int s_1.2), (1, .int s_1.1), (0, .ref h0)] → W p l e (headSpec wsX9_finestFormat ({ frames := 0, cells := 0, slots := 0, locals := 0 })).room s m ([.ref h0] : List Value).toArray below meth c H locs 0 0 Q (F0 m 4 ls []) := by
    intro n
    induction n with
    | zero => exact fun _ _ _ _ hfn => (zl_0 hfn).elim
    | succ n ih_1 =>
      intro s_1 H locs ls hfn hP hD hS hl
      have hfn := zl_s ebd_1 hfn
      refine lv_iload_n hx hb dX9_finestFormat_4 rfl (lv_at hl 0 rfl) ?_
      refine lv_aload_n hx hb dX9_finestFormat_5 rfl (lv_at hl 2 rfl) ?_
      refine va_get (D := (dC, dI)) (ci := 9) (v := .int v0_0) (C := RX9) (T := TX9) (N := 9) hx hb hts zn_X9_finestFormat_X9 hown hK hP 0 rfl rfl 0 (of_decide_eq_true rfl) (hts (.fieldLink RX9 45 "ShortEnough$Task" "formats" "I") zw_X9_finestFormat_282) (fun _ h9 => h9) rfl dX9_finestFormat_6 ?_
      refine lv_icmp_ge (tgt := 35) hx hb dX9_finestFormat_9 (of_decide_eq_true rfl) (fun c_2 => ?_) (fun c_2 => ?_)
      · have hfn := (if_pos c_2).symm.trans hfn
        refine lv_iload_n hx hb dX9_finestFormat_35 rfl (lv_at hl 1 rfl) ?_
        have ho := Option.some.inj hfn
        subst ho
        exact zri hx hb hr hK hP hD hS hQ rfl hlocks dX9_finestFormat_36
      have hfn := (if_neg c_2).symm.trans hfn
      refine lv_aload_n hx hb dX9_finestFormat_12 rfl (lv_at hl 2 rfl) ?_
      refine va_get (D := (dC, dI)) (ci := 9) (v := .ref r0_2) (C := RX9) (T := TX9) (N := 9) hx hb hts zn_X9_finestFormat_X9 hown hK hP 0 rfl rfl 2 (of_decide_eq_true rfl) (hts (.fieldLink RX9 15 "ShortEnough$Task" "step" "[I") zw_X9_finestFormat_283) (fun _ h9 => h9) rfl dX9_finestFormat_13 ?_
      refine lv_iload_n hx hb dX9_finestFormat_16 rfl (lv_at hl 0 rfl) ?_
      obtain ⟨h_3, hfn⟩ := zg_s hfn
      refine va_iald hx hb hK hP 1 0 rfl rfl h_3 dX9_finestFormat_17 ?_
      refine lv_aload_n hx hb dX9_finestFormat_18 rfl (lv_at hl 2 rfl) ?_
      refine va_get (D := (dC, dI)) (ci := 9) (v := .ref r0_2) (C := RX9) (T := TX9) (N := 9) hx hb hts zn_X9_finestFormat_X9 hown hK hP 0 rfl rfl 2 (of_decide_eq_true rfl) (hts (.fieldLink RX9 15 "ShortEnough$Task" "step" "[I") zw_X9_finestFormat_283) (fun _ h9 => h9) rfl dX9_finestFormat_19 ?_
      refine lv_iload_n hx hb dX9_finestFormat_22 rfl (lv_at hl 1 rfl) ?_
      obtain ⟨h_4, hfn⟩ := zg_s hfn
      refine va_iald hx hb hK hP 1 0 rfl rfl h_4 dX9_finestFormat_23 ?_
      refine lv_icmp_ge (tgt := 29) hx hb dX9_finestFormat_24 (of_decide_eq_true rfl) (fun c_5 => ?_) (fun c_5 => ?_)
      · have hfn := (if_pos c_5).symm.trans hfn
        refine lv_iinc (v := (s_1.2 + 1)) (lv' := [(2, .int (s_1.2 + 1)), (1, .int s_1.1), (0, .ref h0)]) hx hb dX9_finestFormat_29 hl (k := 0) rfl rfl (of_decide_eq_true rfl) rfl (fun ls hl => ?_)
        refine lv_goto (tgt := 4) hx hb dX9_finestFormat_32 (of_decide_eq_true rfl) ?_
        exact ih_1 (s_1.1, (s_1.2 + 1)) H locs ls hfn hP hD hS (lv_sub hl [0, 1, 2] rfl)
      have hfn := (if_neg c_5).symm.trans hfn
      refine lv_iload_n hx hb dX9_finestFormat_27 rfl (lv_at hl 0 rfl) ?_
      refine lv_istore_n (lv' := [(1, .int s_1.2), (2, .int s_1.2), (0, .ref h0)]) hx hb dX9_finestFormat_28 rfl hl (of_decide_eq_true rfl) rfl (fun ls hl => ?_)
      refine lv_iinc (v := (s_1.2 + 1)) (lv' := [(2, .int (s_1.2 + 1)), (1, .int s_1.2), (0, .ref h0)]) hx hb dX9_finestFormat_29 hl (k := 1) rfl rfl (of_decide_eq_true rfl) rfl (fun ls hl => ?_)
      refine lv_goto (tgt := 4) hx hb dX9_finestFormat_32 (of_decide_eq_true rfl) ?_
      exact ih_1 (s_1.2, (s_1.2 + 1)) H locs ls hfn hP hD hS (lv_sub hl [0, 1, 2] rfl)
  exact lp_1 _ (0, 1) s.heap [] ls hfn hP hD hS (lv_sub hl [0, 1, 2] rfl)
theorem zn_X3_findUnchanged_X9 : ∀ w ∈ wsX90, w ∈ wsX3_findUnchanged := fun _ h => List.mem_cons_of_mem _ (List.mem_append_left _ (List.mem_append_left _ (List.mem_append_right _ h)))
theorem zw_X3_findUnchanged_295 : Cond.fieldLink RX3 62 "ShortEnough$Task" "groups" "LShortEnough$Groups;" ∈ wsX3_findUnchanged := List.mem_of_getElem? (i := 1) (by decide +kernel)
theorem zn_X3_findUnchanged_X2 : ∀ w ∈ wsX20, w ∈ wsX3_findUnchanged := fun _ h => List.mem_cons_of_mem _ (List.mem_append_left _ (List.mem_append_right _ h))
theorem zw_X3_findUnchanged_297 : Cond.fieldLink RX3 112 "ShortEnough$Groups" "count" "I" ∈ wsX3_findUnchanged := List.mem_of_getElem? (i := 2) (by decide +kernel)
theorem zw_X3_findUnchanged_298 : Cond.fieldLink RX3 115 "ShortEnough$Groups" "fixedAs" "[I" ∈ wsX3_findUnchanged := List.mem_of_getElem? (i := 3) (by decide +kernel)
theorem zn_X3_findUnchanged_X3 : ∀ w ∈ wsX30, w ∈ wsX3_findUnchanged := fun _ h => List.mem_cons_of_mem _ (List.mem_append_right _ h)
theorem zw_X3_findUnchanged_300 : Cond.fieldLink RX3 22 "ShortEnough$LocalSearch" "changed" "[Z" ∈ wsX3_findUnchanged := List.mem_of_getElem? (i := 4) (by decide +kernel)
theorem zw_X3_findUnchanged_301 : Cond.fieldLink RX3 26 "ShortEnough$LocalSearch" "unchanged" "[I" ∈ wsX3_findUnchanged := List.mem_of_getElem? (i := 5) (by decide +kernel)
set_option maxHeartbeats 4000000 in
set_option maxRecDepth 100000 in
theorem zf_X3_findUnchanged (l : Launch) (dC : Nat → ClassId) (dI : Nat → Nat → Nat) (h0 : Nat) (h1 : Nat) (r0_0 : Nat) (r0_1 : Nat) (v0_2 : Int32) (v0_3 : Int32) (r0_4 : Nat) (r0_5 : Nat) (r0_6 : Nat) (r0_7 : Nat) (v0_8 : Int32) (r0_9 : Nat) (v0_10 : Int32) (v0_11 : Int32) (v0_12 : Int32) (v0_13 : Int32) (v0_14 : Int32) (v0_15 : Int32) (v1_0 : Int32) (r1_1 : Nat) (r1_2 : Nat) (r1_3 : Nat) (r1_4 : Nat) (v1_5 : Int32) (r1_6 : Nat) (r1_7 : Nat) (r1_8 : Nat) (v2_0 : Int32) (v2_1 : Int32) (v2_2 : Int32) (r2_3 : Nat) (r2_4 : Nat) (r2_5 : Nat) (k3 : Nat) (f3 : Nat → Int32) (k4 : Nat) (f4 : Nat → Int32) (k5 : Nat) (f5 : Nat → Int32) (o : Int32 × (Nat → Int32)) (hfn : fn_X3_findUnchanged v2_0 f3 f4 f5 = some o) (sz : Nat) : zMi l yX3_findUnchanged wsX3_findUnchanged ({ frames := 0, cells := 0, slots := 0, locals := 0 }) (dC, dI) vwCl [.ref h0, .ref h1] [zV3 h0 r0_0 r0_1 v0_2 v0_3 r0_4 r0_5 r0_6 r0_7 v0_8 r0_9 v0_10 v0_11 v0_12 v0_13 v0_14 v0_15, zV9 h1 v1_0 r1_1 r1_2 r1_3 r1_4 v1_5 r1_6 r1_7 r1_8, zV2 r1_7 v2_0 v2_1 v2_2 r2_3 r2_4 r2_5, zVi r2_4 k3 14 f3, zVi r0_4 k4 14 f4, zVi r0_5 k5 14 f5] [(k3, .int), (k4, .boolean), (k5, .int)] (fun r _ => r = o.1) [zV3 h0 r0_0 r0_1 v0_2 v0_3 r0_4 r0_5 r0_6 r0_7 v0_8 r0_9 v0_10 v0_11 v0_12 v0_13 v0_14 v0_15, zV9 h1 v1_0 r1_1 r1_2 r1_3 r1_4 v1_5 r1_6 r1_7 r1_8, zV2 r1_7 v2_0 v2_1 v2_2 r2_3 r2_4 r2_5, zVi r2_4 k3 14 f3, zVi r0_4 k4 14 f4, zVi r0_5 k5 14 o.2] [(k3, .int), (k4, .boolean), (k5, .int)] sz := by
  refine zgoi (cc := cX3_findUnchanged) (maxL := 4) (ret := (some .int)) (C0 := RX3) (lv0 := [(0, .ref h0), (1, .ref h1)]) zpl_X3 rfl rfl rfl (Nat.le_of_ble_eq_true rfl) ?_
  intro p e s m below meth c A ls Q hx hb hr hts hown hlocks hml hP hK hD hA hS hl hQ
  unfold fn_X3_findUnchanged at hfn
  refine lv_iconst (v := 0) hx hb dX3_findUnchanged_0 zci_0 ?_
  refine lv_istore_n (lv' := [(2, .int 0), (0, .ref h0), (1, .ref h1)]) hx hb dX3_findUnchanged_1 rfl hl (of_decide_eq_true rfl) rfl (fun ls hl => ?_)
  refine lv_iconst (v := 0) hx hb dX3_findUnchanged_2 zci_0 ?_
  refine lv_istore_n (lv' := [(3, .int 0), (2, .int 0), (0, .ref h0), (1, .ref h1)]) hx hb dX3_findUnchanged_3 rfl hl (of_decide_eq_true rfl) rfl (fun ls hl => ?_)
  obtain ⟨bd_1, ebd_1, hfn⟩ := zl_g hfn
  have lp_1 : ∀ (n : Nat) (s_1 : Int32 × Int32 × (Nat → Int32)) (H : Heap) (locs : List Loc) (ls : Array Slot), zl bd_1 n s_1 = some o → va_P (dC, dI) vwCl [zV3 h0 r0_0 r0_1 v0_2 v0_3 r0_4 r0_5 r0_6 r0_7 v0_8 r0_9 v0_10 v0_11 v0_12 v0_13 v0_14 v0_15, zV9 h1 v1_0 r1_1 r1_2 r1_3 r1_4 v1_5 r1_6 r1_7 r1_8, zV2 r1_7 v2_0 v2_1 v2_2 r2_3 r2_4 r2_5, zVi r2_4 k3 14 f3, zVi r0_4 k4 14 f4, zVi r0_5 k5 14 s_1.2.2] H → va_D A [zV3 h0 r0_0 r0_1 v0_2 v0_3 r0_4 r0_5 r0_6 r0_7 v0_8 r0_9 v0_10 v0_11 v0_12 v0_13 v0_14 v0_15, zV9 h1 v1_0 r1_1 r1_2 r1_3 r1_4 v1_5 r1_6 r1_7 r1_8, zV2 r1_7 v2_0 v2_1 v2_2 r2_3 r2_4 r2_5, zVi r2_4 k3 14 f3, zVi r0_4 k4 14 f4, zVi r0_5 k5 14 s_1.2.2] → va_S A s.heap H locs → lv_has ls 4 [(3, .int s_1.2.1), (2, .int s_1.1), (0, .ref h0), (1, .ref h1)] → W p l e (headSpec wsX3_findUnchanged ({ frames := 0, cells := 0, slots := 0, locals := 0 })).room s m ([.ref h0, .ref h1] : List Value).toArray below meth c H locs 0 0 Q (F0 m 4 ls []) := by
    intro n
    induction n with
    | zero => exact fun _ _ _ _ hfn => (zl_0 hfn).elim
    | succ n ih_1 =>
      intro s_1 H locs ls hfn hP hD hS hl
      have hfn := zl_s ebd_1 hfn
      refine lv_iload_n hx hb dX3_findUnchanged_4 rfl (lv_at hl 0 rfl) ?_
      refine lv_aload_n hx hb dX3_findUnchanged_5 rfl (lv_at hl 3 rfl) ?_
      refine va_get (D := (dC, dI)) (ci := 9) (v := .ref r1_7) (C := RX9) (T := TX9) (N := 9) hx hb hts zn_X3_findUnchanged_X9 hown hK hP 1 rfl rfl 7 (of_decide_eq_true rfl) (hts (.fieldLink RX3 62 "ShortEnough$Task" "groups" "LShortEnough$Groups;") zw_X3_findUnchanged_295) (fun _ h9 => h9) rfl dX3_findUnchanged_6 ?_
      refine va_get (D := (dC, dI)) (ci := 2) (v := .int v2_0) (C := RX2) (T := TX2) (N := 6) hx hb hts zn_X3_findUnchanged_X2 hown hK hP 2 rfl rfl 0 (of_decide_eq_true rfl) (hts (.fieldLink RX3 112 "ShortEnough$Groups" "count" "I") zw_X3_findUnchanged_297) (fun _ h9 => h9) rfl dX3_findUnchanged_9 ?_
      refine lv_icmp_ge (tgt := 53) hx hb dX3_findUnchanged_12 (of_decide_eq_true rfl) (fun c_2 => ?_) (fun c_2 => ?_)
      · have hfn := (if_pos c_2).symm.trans hfn
        refine lv_iload_n hx hb dX3_findUnchanged_53 rfl (lv_at hl 1 rfl) ?_
        have ho := Option.some.inj hfn
        subst ho
        exact zri hx hb hr hK hP hD hS hQ rfl hlocks dX3_findUnchanged_54
      have hfn := (if_neg c_2).symm.trans hfn
      refine lv_aload_n hx hb dX3_findUnchanged_15 rfl (lv_at hl 3 rfl) ?_
      refine va_get (D := (dC, dI)) (ci := 9) (v := .ref r1_7) (C := RX9) (T := TX9) (N := 9) hx hb hts zn_X3_findUnchanged_X9 hown hK hP 1 rfl rfl 7 (of_decide_eq_true rfl) (hts (.fieldLink RX3 62 "ShortEnough$Task" "groups" "LShortEnough$Groups;") zw_X3_findUnchanged_295) (fun _ h9 => h9) rfl dX3_findUnchanged_16 ?_
      refine va_get (D := (dC, dI)) (ci := 2) (v := .ref r2_4) (C := RX2) (T := TX2) (N := 6) hx hb hts zn_X3_findUnchanged_X2 hown hK hP 2 rfl rfl 4 (of_decide_eq_true rfl) (hts (.fieldLink RX3 115 "ShortEnough$Groups" "fixedAs" "[I") zw_X3_findUnchanged_298) (fun _ h9 => h9) rfl dX3_findUnchanged_19 ?_
      refine lv_iload_n hx hb dX3_findUnchanged_22 rfl (lv_at hl 0 rfl) ?_
      obtain ⟨h_3, hfn⟩ := zg_s hfn
      refine va_iald hx hb hK hP 3 0 rfl rfl h_3 dX3_findUnchanged_23 ?_
      refine lv_iconst (v := (-1)) hx hb dX3_findUnchanged_24 zci_m1 ?_
      refine lv_icmp_ne (tgt := 47) hx hb dX3_findUnchanged_25 (of_decide_eq_true rfl) (fun c_4 => ?_) (fun c_4 => ?_)
      · have hfn := (if_neg c_4).symm.trans hfn
        refine lv_iinc (v := (s_1.2.1 + 1)) (lv' := [(3, .int (s_1.2.1 + 1)), (2, .int s_1.1), (0, .ref h0), (1, .ref h1)]) hx hb dX3_findUnchanged_47 hl (k := 0) rfl rfl (of_decide_eq_true rfl) rfl (fun ls hl => ?_)
        refine lv_goto (tgt := 4) hx hb dX3_findUnchanged_50 (of_decide_eq_true rfl) ?_
        exact ih_1 (s_1.1, (s_1.2.1 + 1), s_1.2.2) H locs ls hfn hP hD hS (lv_sub hl [0, 1, 2, 3] rfl)
      have hfn := (if_pos c_4).symm.trans hfn
      refine lv_aload_n hx hb dX3_findUnchanged_28 rfl (lv_at hl 2 rfl) ?_
      refine va_get (D := (dC, dI)) (ci := 3) (v := .ref r0_4) (C := RX3) (T := TX3) (N := 16) hx hb hts zn_X3_findUnchanged_X3 hown hK hP 0 rfl rfl 4 (of_decide_eq_true rfl) (hts (.fieldLink RX3 22 "ShortEnough$LocalSearch" "changed" "[Z") zw_X3_findUnchanged_300) (fun _ h9 => h9) rfl dX3_findUnchanged_29 ?_
      refine lv_iload_n hx hb dX3_findUnchanged_32 rfl (lv_at hl 0 rfl) ?_
      refine va_zald hx hb hK hP 4 1 rfl rfl h_3 dX3_findUnchanged_33 ?_
      refine lv_if_ne (tgt := 47) hx hb dX3_findUnchanged_34 (of_decide_eq_true rfl) (fun c_5 => ?_) (fun c_5 => ?_)
      · have hfn := (if_neg c_5).symm.trans hfn
        refine lv_iinc (v := (s_1.2.1 + 1)) (lv' := [(3, .int (s_1.2.1 + 1)), (2, .int s_1.1), (0, .ref h0), (1, .ref h1)]) hx hb dX3_findUnchanged_47 hl (k := 0) rfl rfl (of_decide_eq_true rfl) rfl (fun ls hl => ?_)
        refine lv_goto (tgt := 4) hx hb dX3_findUnchanged_50 (of_decide_eq_true rfl) ?_
        exact ih_1 (s_1.1, (s_1.2.1 + 1), s_1.2.2) H locs ls hfn hP hD hS (lv_sub hl [0, 1, 2, 3] rfl)
      have hfn := (if_pos c_5).symm.trans hfn
      refine lv_aload_n hx hb dX3_findUnchanged_37 rfl (lv_at hl 2 rfl) ?_
      refine va_get (D := (dC, dI)) (ci := 3) (v := .ref r0_5) (C := RX3) (T := TX3) (N := 16) hx hb hts zn_X3_findUnchanged_X3 hown hK hP 0 rfl rfl 5 (of_decide_eq_true rfl) (hts (.fieldLink RX3 26 "ShortEnough$LocalSearch" "unchanged" "[I") zw_X3_findUnchanged_301) (fun _ h9 => h9) rfl dX3_findUnchanged_38 ?_
      refine lv_iload_n hx hb dX3_findUnchanged_41 rfl (lv_at hl 1 rfl) ?_
      refine lv_iload_n hx hb dX3_findUnchanged_42 rfl (lv_at hl 0 rfl) ?_
      obtain ⟨h_6, hfn⟩ := zg_s hfn
      refine va_iast hx hb hK hP hD hS 5 2 rfl rfl h_6 dX3_findUnchanged_43 (fun H locs hP hD hS => ?_)
      have hP : va_P (dC, dI) vwCl [zV3 h0 r0_0 r0_1 v0_2 v0_3 r0_4 r0_5 r0_6 r0_7 v0_8 r0_9 v0_10 v0_11 v0_12 v0_13 v0_14 v0_15, zV9 h1 v1_0 r1_1 r1_2 r1_3 r1_4 v1_5 r1_6 r1_7 r1_8, zV2 r1_7 v2_0 v2_1 v2_2 r2_3 r2_4 r2_5, zVi r2_4 k3 14 f3, zVi r0_4 k4 14 f4, zVi r0_5 k5 14 (upd s_1.2.2 s_1.1.toNatClampNeg s_1.2.1)] H := hP
      have hD := zDW hD hP rfl
      refine lv_iinc (v := (s_1.1 + 1)) (lv' := [(2, .int (s_1.1 + 1)), (3, .int s_1.2.1), (0, .ref h0), (1, .ref h1)]) hx hb dX3_findUnchanged_44 hl (k := 1) rfl rfl (of_decide_eq_true rfl) rfl (fun ls hl => ?_)
      refine lv_iinc (v := (s_1.2.1 + 1)) (lv' := [(3, .int (s_1.2.1 + 1)), (2, .int (s_1.1 + 1)), (0, .ref h0), (1, .ref h1)]) hx hb dX3_findUnchanged_47 hl (k := 1) rfl rfl (of_decide_eq_true rfl) rfl (fun ls hl => ?_)
      refine lv_goto (tgt := 4) hx hb dX3_findUnchanged_50 (of_decide_eq_true rfl) ?_
      exact ih_1 ((s_1.1 + 1), (s_1.2.1 + 1), (upd s_1.2.2 s_1.1.toNatClampNeg s_1.2.1)) H locs ls hfn hP hD hS (lv_sub hl [0, 1, 2, 3] rfl)
  exact lp_1 _ (0, 0, f5) s.heap [] ls hfn hP hD hS (lv_sub hl [0, 1, 2, 3] rfl)
theorem zn_X3_addPart_X3 : ∀ w ∈ wsX30, w ∈ wsX3_addPart := fun _ h => List.mem_cons_of_mem _ (List.mem_append_right _ h)
theorem zw_X3_addPart_305 : Cond.fieldLink RX3 101 "ShortEnough$LocalSearch" "parts" "I" ∈ wsX3_addPart := List.mem_of_getElem? (i := 1) (by decide +kernel)
theorem zw_X3_addPart_306 : Cond.fieldLink RX3 29 "ShortEnough$LocalSearch" "partFrom" "[I" ∈ wsX3_addPart := List.mem_of_getElem? (i := 2) (by decide +kernel)
theorem zw_X3_addPart_307 : Cond.fieldLink RX3 32 "ShortEnough$LocalSearch" "partTo" "[I" ∈ wsX3_addPart := List.mem_of_getElem? (i := 3) (by decide +kernel)
set_option maxHeartbeats 4000000 in
set_option maxRecDepth 100000 in
theorem zf_X3_addPart (l : Launch) (dC : Nat → ClassId) (dI : Nat → Nat → Nat) (h0 : Nat) (p1 : Int32) (p2 : Int32) (r0_0 : Nat) (r0_1 : Nat) (v0_2 : Int32) (v0_3 : Int32) (r0_4 : Nat) (r0_5 : Nat) (r0_6 : Nat) (r0_7 : Nat) (v0_8 : Int32) (r0_9 : Nat) (v0_10 : Int32) (v0_11 : Int32) (v0_12 : Int32) (v0_13 : Int32) (v0_14 : Int32) (v0_15 : Int32) (k1 : Nat) (f1 : Nat → Int32) (k2 : Nat) (f2 : Nat → Int32) (o : Int32 × (Nat → Int32) × (Nat → Int32)) (hfn : fn_X3_addPart p1 p2 v0_8 f1 f2 = some o) (sz : Nat) : zMv l yX3_addPart wsX3_addPart ({ frames := 0, cells := 0, slots := 0, locals := 0 }) (dC, dI) vwCl [.ref h0, .int p1, .int p2] [zV3 h0 r0_0 r0_1 v0_2 v0_3 r0_4 r0_5 r0_6 r0_7 v0_8 r0_9 v0_10 v0_11 v0_12 v0_13 v0_14 v0_15, zVi r0_6 k1 28 f1, zVi r0_7 k2 28 f2] [(k1, .int), (k2, .int)] (fun _ => True) [zV3 h0 r0_0 r0_1 v0_2 v0_3 r0_4 r0_5 r0_6 r0_7 o.1 r0_9 v0_10 v0_11 v0_12 v0_13 v0_14 v0_15, zVi r0_6 k1 28 o.2.1, zVi r0_7 k2 28 o.2.2] [(k1, .int), (k2, .int)] sz := by
  refine zgov (cc := cX3_addPart) (maxL := 3) (ret := none) (C0 := RX3) (lv0 := [(0, .ref h0), (1, .int p1), (2, .int p2)]) zpl_X3 rfl rfl rfl (Nat.le_of_ble_eq_true rfl) ?_
  intro p e s m below meth c A ls Q hx hb hr hts hown hlocks hml hP hK hD hA hS hl hQ
  unfold fn_X3_addPart at hfn
  refine lv_aload_n hx hb dX3_addPart_0 rfl (lv_at hl 0 rfl) ?_
  refine va_get (D := (dC, dI)) (ci := 3) (v := .int v0_8) (C := RX3) (T := TX3) (N := 16) hx hb hts zn_X3_addPart_X3 hown hK hP 0 rfl rfl 8 (of_decide_eq_true rfl) (hts (.fieldLink RX3 101 "ShortEnough$LocalSearch" "parts" "I") zw_X3_addPart_305) (fun _ h9 => h9) rfl dX3_addPart_1 ?_
  refine lv_bipush (v := 28) hx hb dX3_addPart_4 zcb_28 ?_
  refine lv_icmp_ge (tgt := 39) hx hb dX3_addPart_6 (of_decide_eq_true rfl) (fun c_1 => ?_) (fun c_1 => ?_)
  · have hfn := (if_pos c_1).symm.trans hfn
    have ho := Option.some.inj hfn
    subst ho
    exact zrv hx hb hr hK hP hD hS hQ trivial hlocks dX3_addPart_39
  have hfn := (if_neg c_1).symm.trans hfn
  refine lv_aload_n hx hb dX3_addPart_9 rfl (lv_at hl 0 rfl) ?_
  refine va_get (D := (dC, dI)) (ci := 3) (v := .ref r0_6) (C := RX3) (T := TX3) (N := 16) hx hb hts zn_X3_addPart_X3 hown hK hP 0 rfl rfl 6 (of_decide_eq_true rfl) (hts (.fieldLink RX3 29 "ShortEnough$LocalSearch" "partFrom" "[I") zw_X3_addPart_306) (fun _ h9 => h9) rfl dX3_addPart_10 ?_
  refine lv_aload_n hx hb dX3_addPart_13 rfl (lv_at hl 0 rfl) ?_
  refine va_get (D := (dC, dI)) (ci := 3) (v := .int v0_8) (C := RX3) (T := TX3) (N := 16) hx hb hts zn_X3_addPart_X3 hown hK hP 0 rfl rfl 8 (of_decide_eq_true rfl) (hts (.fieldLink RX3 101 "ShortEnough$LocalSearch" "parts" "I") zw_X3_addPart_305) (fun _ h9 => h9) rfl dX3_addPart_14 ?_
  refine lv_iload_n hx hb dX3_addPart_17 rfl (lv_at hl 1 rfl) ?_
  obtain ⟨h_2, hfn⟩ := zg_s hfn
  refine va_iast hx hb hK hP hD hS 1 0 rfl rfl h_2 dX3_addPart_18 (fun H locs hP hD hS => ?_)
  have hP : va_P (dC, dI) vwCl [zV3 h0 r0_0 r0_1 v0_2 v0_3 r0_4 r0_5 r0_6 r0_7 v0_8 r0_9 v0_10 v0_11 v0_12 v0_13 v0_14 v0_15, zVi r0_6 k1 28 (upd f1 v0_8.toNatClampNeg p1), zVi r0_7 k2 28 f2] H := hP
  have hD := zDW hD hP rfl
  refine lv_aload_n hx hb dX3_addPart_19 rfl (lv_at hl 0 rfl) ?_
  refine va_get (D := (dC, dI)) (ci := 3) (v := .ref r0_7) (C := RX3) (T := TX3) (N := 16) hx hb hts zn_X3_addPart_X3 hown hK hP 0 rfl rfl 7 (of_decide_eq_true rfl) (hts (.fieldLink RX3 32 "ShortEnough$LocalSearch" "partTo" "[I") zw_X3_addPart_307) (fun _ h9 => h9) rfl dX3_addPart_20 ?_
  refine lv_aload_n hx hb dX3_addPart_23 rfl (lv_at hl 0 rfl) ?_
  refine va_get (D := (dC, dI)) (ci := 3) (v := .int v0_8) (C := RX3) (T := TX3) (N := 16) hx hb hts zn_X3_addPart_X3 hown hK hP 0 rfl rfl 8 (of_decide_eq_true rfl) (hts (.fieldLink RX3 101 "ShortEnough$LocalSearch" "parts" "I") zw_X3_addPart_305) (fun _ h9 => h9) rfl dX3_addPart_24 ?_
  refine lv_iload_n hx hb dX3_addPart_27 rfl (lv_at hl 2 rfl) ?_
  refine va_iast hx hb hK hP hD hS 2 1 rfl rfl h_2 dX3_addPart_28 (fun H locs hP hD hS => ?_)
  have hP : va_P (dC, dI) vwCl [zV3 h0 r0_0 r0_1 v0_2 v0_3 r0_4 r0_5 r0_6 r0_7 v0_8 r0_9 v0_10 v0_11 v0_12 v0_13 v0_14 v0_15, zVi r0_6 k1 28 (upd f1 v0_8.toNatClampNeg p1), zVi r0_7 k2 28 (upd f2 v0_8.toNatClampNeg p2)] H := hP
  have hD := zDW hD hP rfl
  refine lv_aload_n hx hb dX3_addPart_29 rfl (lv_at hl 0 rfl) ?_
  refine lv_dup hx hb dX3_addPart_30 rfl ?_
  refine va_get (D := (dC, dI)) (ci := 3) (v := .int v0_8) (C := RX3) (T := TX3) (N := 16) hx hb hts zn_X3_addPart_X3 hown hK hP 0 rfl rfl 8 (of_decide_eq_true rfl) (hts (.fieldLink RX3 101 "ShortEnough$LocalSearch" "parts" "I") zw_X3_addPart_305) (fun _ h9 => h9) rfl dX3_addPart_31 ?_
  refine lv_iconst (v := 1) hx hb dX3_addPart_34 zci_1 ?_
  refine lv_iadd hx hb dX3_addPart_35 ?_
  refine va_put (D := (dC, dI)) (ci := 3) (v := .int (v0_8 + 1)) (ty := .int) (C := RX3) (T := TX3) (N := 16) hx hb hts zn_X3_addPart_X3 tyX3 tyX3_ok nmX3 hown hK hP hD hS 0 rfl rfl 8 (of_decide_eq_true rfl) (hts (.fieldLink RX3 101 "ShortEnough$LocalSearch" "parts" "I") zw_X3_addPart_305) (fun _ h9 => h9) rfl (tyX3_ok 8 (of_decide_eq_true rfl)) rfl rfl (Nat.le_of_ble_eq_true rfl) dX3_addPart_36 (fun H locs hP hD hS => ?_)
  have hP : va_P (dC, dI) vwCl [zV3 h0 r0_0 r0_1 v0_2 v0_3 r0_4 r0_5 r0_6 r0_7 (v0_8 + 1) r0_9 v0_10 v0_11 v0_12 v0_13 v0_14 v0_15, zVi r0_6 k1 28 (upd f1 v0_8.toNatClampNeg p1), zVi r0_7 k2 28 (upd f2 v0_8.toNatClampNeg p2)] H := hP
  have hD := zDW hD hP rfl
  have ho := Option.some.inj hfn
  subst ho
  exact zrv hx hb hr hK hP hD hS hQ trivial hlocks dX3_addPart_39
theorem zn_X3_setPart_X3 : ∀ w ∈ wsX30, w ∈ wsX3_setPart := fun _ h => List.mem_cons_of_mem _ (List.mem_append_right _ h)
theorem zw_X3_setPart_312 : Cond.fieldLink RX3 35 "ShortEnough$LocalSearch" "row" "[I" ∈ wsX3_setPart := List.mem_of_getElem? (i := 1) (by decide +kernel)
theorem zw_X3_setPart_313 : Cond.fieldLink RX3 26 "ShortEnough$LocalSearch" "unchanged" "[I" ∈ wsX3_setPart := List.mem_of_getElem? (i := 2) (by decide +kernel)
set_option maxHeartbeats 4000000 in
set_option maxRecDepth 100000 in
theorem zf_X3_setPart (l : Launch) (dC : Nat → ClassId) (dI : Nat → Nat → Nat) (h0 : Nat) (p1 : Int32) (p2 : Int32) (p3 : Int32) (r0_0 : Nat) (r0_1 : Nat) (v0_2 : Int32) (v0_3 : Int32) (r0_4 : Nat) (r0_5 : Nat) (r0_6 : Nat) (r0_7 : Nat) (v0_8 : Int32) (r0_9 : Nat) (v0_10 : Int32) (v0_11 : Int32) (v0_12 : Int32) (v0_13 : Int32) (v0_14 : Int32) (v0_15 : Int32) (k1 : Nat) (f1 : Nat → Int32) (k2 : Nat) (f2 : Nat → Int32) (o : (Nat → Int32)) (hfn : fn_X3_setPart p1 p2 p3 f1 f2 = some o) (sz : Nat) : zMv l yX3_setPart wsX3_setPart ({ frames := 0, cells := 0, slots := 0, locals := 0 }) (dC, dI) vwCl [.ref h0, .int p1, .int p2, .int p3] [zV3 h0 r0_0 r0_1 v0_2 v0_3 r0_4 r0_5 r0_6 r0_7 v0_8 r0_9 v0_10 v0_11 v0_12 v0_13 v0_14 v0_15, zVi r0_5 k1 14 f1, zVi r0_9 k2 14 f2] [(k1, .int), (k2, .int)] (fun _ => True) [zV3 h0 r0_0 r0_1 v0_2 v0_3 r0_4 r0_5 r0_6 r0_7 v0_8 r0_9 v0_10 v0_11 v0_12 v0_13 v0_14 v0_15, zVi r0_5 k1 14 f1, zVi r0_9 k2 14 o] [(k1, .int), (k2, .int)] sz := by
  refine zgov (cc := cX3_setPart) (maxL := 5) (ret := none) (C0 := RX3) (lv0 := [(0, .ref h0), (1, .int p1), (2, .int p2), (3, .int p3)]) zpl_X3 rfl rfl rfl (Nat.le_of_ble_eq_true rfl) ?_
  intro p e s m below meth c A ls Q hx hb hr hts hown hlocks hml hP hK hD hA hS hl hQ
  unfold fn_X3_setPart at hfn
  refine lv_iload_n hx hb dX3_setPart_0 rfl (lv_at hl 1 rfl) ?_
  refine lv_istore (lv' := [(4, .int p1), (0, .ref h0), (1, .int p1), (2, .int p2), (3, .int p3)]) hx hb dX3_setPart_1 hl (of_decide_eq_true rfl) rfl (fun ls hl => ?_)
  obtain ⟨bd_1, ebd_1, hfn⟩ := zl_g hfn
  have lp_1 : ∀ (n : Nat) (s_1 : Int32 × (Nat → Int32)) (H : Heap) (locs : List Loc) (ls : Array Slot), zl bd_1 n s_1 = some o → va_P (dC, dI) vwCl [zV3 h0 r0_0 r0_1 v0_2 v0_3 r0_4 r0_5 r0_6 r0_7 v0_8 r0_9 v0_10 v0_11 v0_12 v0_13 v0_14 v0_15, zVi r0_5 k1 14 f1, zVi r0_9 k2 14 s_1.2] H → va_D A [zV3 h0 r0_0 r0_1 v0_2 v0_3 r0_4 r0_5 r0_6 r0_7 v0_8 r0_9 v0_10 v0_11 v0_12 v0_13 v0_14 v0_15, zVi r0_5 k1 14 f1, zVi r0_9 k2 14 s_1.2] → va_S A s.heap H locs → lv_has ls 5 [(4, .int s_1.1), (0, .ref h0), (2, .int p2), (3, .int p3)] → W p l e (headSpec wsX3_setPart ({ frames := 0, cells := 0, slots := 0, locals := 0 })).room s m ([.ref h0, .int p1, .int p2, .int p3] : List Value).toArray below meth c H locs 0 0 Q (F0 m 3 ls []) := by
    intro n
    induction n with
    | zero => exact fun _ _ _ _ hfn => (zl_0 hfn).elim
    | succ n ih_1 =>
      intro s_1 H locs ls hfn hP hD hS hl
      have hfn := zl_s ebd_1 hfn
      refine lv_iload hx hb dX3_setPart_3 (lv_at hl 0 rfl) ?_
      refine lv_iload_n hx hb dX3_setPart_5 rfl (lv_at hl 2 rfl) ?_
      refine lv_icmp_ge (tgt := 28) hx hb dX3_setPart_6 (of_decide_eq_true rfl) (fun c_2 => ?_) (fun c_2 => ?_)
      · have hfn := (if_pos c_2).symm.trans hfn
        have ho := Option.some.inj hfn
        subst ho
        exact zrv hx hb hr hK hP hD hS hQ trivial hlocks dX3_setPart_28
      have hfn := (if_neg c_2).symm.trans hfn
      refine lv_aload_n hx hb dX3_setPart_9 rfl (lv_at hl 1 rfl) ?_
      refine va_get (D := (dC, dI)) (ci := 3) (v := .ref r0_9) (C := RX3) (T := TX3) (N := 16) hx hb hts zn_X3_setPart_X3 hown hK hP 0 rfl rfl 9 (of_decide_eq_true rfl) (hts (.fieldLink RX3 35 "ShortEnough$LocalSearch" "row" "[I") zw_X3_setPart_312) (fun _ h9 => h9) rfl dX3_setPart_10 ?_
      refine lv_aload_n hx hb dX3_setPart_13 rfl (lv_at hl 1 rfl) ?_
      refine va_get (D := (dC, dI)) (ci := 3) (v := .ref r0_5) (C := RX3) (T := TX3) (N := 16) hx hb hts zn_X3_setPart_X3 hown hK hP 0 rfl rfl 5 (of_decide_eq_true rfl) (hts (.fieldLink RX3 26 "ShortEnough$LocalSearch" "unchanged" "[I") zw_X3_setPart_313) (fun _ h9 => h9) rfl dX3_setPart_14 ?_
      refine lv_iload hx hb dX3_setPart_17 (lv_at hl 0 rfl) ?_
      obtain ⟨h_3, hfn⟩ := zg_s hfn
      refine va_iald hx hb hK hP 1 0 rfl rfl h_3 dX3_setPart_19 ?_
      refine lv_iload_n hx hb dX3_setPart_20 rfl (lv_at hl 3 rfl) ?_
      obtain ⟨h_4, hfn⟩ := zg_s hfn
      refine va_iast hx hb hK hP hD hS 2 1 rfl rfl h_4 dX3_setPart_21 (fun H locs hP hD hS => ?_)
      have hP : va_P (dC, dI) vwCl [zV3 h0 r0_0 r0_1 v0_2 v0_3 r0_4 r0_5 r0_6 r0_7 v0_8 r0_9 v0_10 v0_11 v0_12 v0_13 v0_14 v0_15, zVi r0_5 k1 14 f1, zVi r0_9 k2 14 (upd s_1.2 (f1 s_1.1.toNatClampNeg).toNatClampNeg p3)] H := hP
      have hD := zDW hD hP rfl
      refine lv_iinc (v := (s_1.1 + 1)) (lv' := [(4, .int (s_1.1 + 1)), (0, .ref h0), (2, .int p2), (3, .int p3)]) hx hb dX3_setPart_22 hl (k := 0) rfl rfl (of_decide_eq_true rfl) rfl (fun ls hl => ?_)
      refine lv_goto (tgt := 3) hx hb dX3_setPart_25 (of_decide_eq_true rfl) ?_
      exact ih_1 ((s_1.1 + 1), (upd s_1.2 (f1 s_1.1.toNatClampNeg).toNatClampNeg p3)) H locs ls hfn hP hD hS (lv_sub hl [0, 1, 2, 3] rfl)
  exact lp_1 _ (p1, f2) s.heap [] ls hfn hP hD hS (lv_sub hl [0, 1, 3, 4] rfl)
theorem zn_X3_changePart_X3 : ∀ w ∈ wsX30, w ∈ wsX3_changePart := fun _ h => List.mem_cons_of_mem _ (List.mem_append_left _ (List.mem_append_left _ (List.mem_append_left _ (List.mem_append_left _ (List.mem_append_left _ (List.mem_append_right _ h))))))
theorem zw_X3_changePart_315 : Cond.fieldLink RX3 35 "ShortEnough$LocalSearch" "row" "[I" ∈ wsX3_changePart := List.mem_of_getElem? (i := 1) (by decide +kernel)
theorem zw_X3_changePart_316 : Cond.fieldLink RX3 87 "ShortEnough$LocalSearch" "price" "I" ∈ wsX3_changePart := List.mem_of_getElem? (i := 2) (by decide +kernel)
theorem zw_X3_changePart_317 : Cond.fieldLink RX3 12 "ShortEnough$LocalSearch" "reckoning" "LShortEnough$Reckoning;" ∈ wsX3_changePart := List.mem_of_getElem? (i := 3) (by decide +kernel)
theorem zn_X3_changePart_X9 : ∀ w ∈ wsX90, w ∈ wsX3_changePart := fun _ h => List.mem_cons_of_mem _ (List.mem_append_left _ (List.mem_append_left _ (List.mem_append_left _ (List.mem_append_left _ (List.mem_append_right _ h)))))
theorem zw_X3_changePart_319 : Cond.fieldLink RX3 75 "ShortEnough$Task" "ranges" "LShortEnough$Ranges;" ∈ wsX3_changePart := List.mem_of_getElem? (i := 4) (by decide +kernel)
theorem zw_X3_changePart_320 : Cond.fieldLink RX3 22 "ShortEnough$LocalSearch" "changed" "[Z" ∈ wsX3_changePart := List.mem_of_getElem? (i := 5) (by decide +kernel)
theorem zw_X3_changePart_321 : Cond.fieldLink RX3 26 "ShortEnough$LocalSearch" "unchanged" "[I" ∈ wsX3_changePart := List.mem_of_getElem? (i := 6) (by decide +kernel)
set_option maxHeartbeats 4000000 in
set_option maxRecDepth 100000 in
theorem zf_X3_changePart (l : Launch) (dC : Nat → ClassId) (dI : Nat → Nat → Nat) (h0 : Nat) (h1 : Nat) (p2 : Int32) (p3 : Int32) (p4 : Int32) (p5 : Int32) (r0_0 : Nat) (r0_1 : Nat) (v0_2 : Int32) (v0_3 : Int32) (r0_4 : Nat) (r0_5 : Nat) (r0_6 : Nat) (r0_7 : Nat) (v0_8 : Int32) (r0_9 : Nat) (v0_10 : Int32) (v0_11 : Int32) (v0_12 : Int32) (v0_13 : Int32) (v0_14 : Int32) (v0_15 : Int32) (k1 : Nat) (f1 : Nat → Int32) (k2 : Nat) (f2 : Nat → Int32) (v3_0 : Int32) (r3_1 : Nat) (r3_2 : Nat) (r3_3 : Nat) (r3_4 : Nat) (v3_5 : Int32) (r3_6 : Nat) (r3_7 : Nat) (r3_8 : Nat) (v4_0 : Int32) (v4_1 : Int32) (r4_2 : Nat) (r4_3 : Nat) (r4_4 : Nat) (r4_5 : Nat) (r4_6 : Nat) (r4_7 : Nat) (r4_8 : Nat) (r4_9 : Nat) (k5 : Nat) (f5 : Nat → Int32) (v6_0 : Int32) (v6_1 : Int32) (v6_2 : Int32) (r6_3 : Nat) (r6_4 : Nat) (r6_5 : Nat) (k7 : Nat) (f7 : Nat → Int32) (k8 : Nat) (f8 : Nat → Int32) (r9_0 : Nat) (v9_1 : Int32) (v9_2 : Int32) (k10 : Nat) (f10 : Nat → Int32) (k11 : Nat) (f11 : Nat → Int32) (k12 : Nat) (f12 : Nat → Int64) (k13 : Nat) (f13 : Nat → Int32) (r14_0 : Nat) (r14_1 : Nat) (r14_2 : Nat) (k15 : Nat) (f15 : Nat → Int64) (k16 : Nat) (f16 : Nat → Int64) (k17 : Nat) (f17 : Nat → Int32) (k18 : Nat) (f18 : Nat → Int32) (k19 : Nat) (f19 : Nat → Int32) (o : Int32 × Int32 × (Nat → Int32) × Int32 × Int32 × (Nat → Int64) × (Nat → Int32)) (hfn : fn_X3_changePart p2 p3 p4 p5 v0_10 f1 f2 v3_0 v3_5 v4_0 f5 f7 f8 v9_1 v9_2 f10 f11 f12 f13 f15 f16 f17 f18 f19 = some o) (sz : Nat) : zNi [(RX7, 90, yX11_divides, RX11)] l yX3_changePart wsX3_changePart ({ frames := 4, cells := 0, slots := 0, locals := 125 }) (dC, dI) vwCl [.ref h0, .ref h1, .int p2, .int p3, .int p4, .int p5] [zV3 h0 r0_0 r0_1 v0_2 v0_3 r0_4 r0_5 r0_6 r0_7 v0_8 r0_9 v0_10 v0_11 v0_12 v0_13 v0_14 v0_15, zVi r0_5 k1 14 f1, zVi r0_9 k2 14 f2, zV9 h1 v3_0 r3_1 r3_2 r3_3 r3_4 v3_5 r3_6 r3_7 r3_8, zV4 r3_6 v4_0 v4_1 r4_2 r4_3 r4_4 r4_5 r4_6 r4_7 r4_8 r4_9, zVi r4_8 k5 28 f5, zV2 r3_7 v6_0 v6_1 v6_2 r6_3 r6_4 r6_5, zVi r6_3 k7 14 f7, zVi r3_4 k8 4 f8, zV7 r0_0 r9_0 v9_1 v9_2, zVi r3_2 k10 4 f10, zVi r4_3 k11 14 f11, zVl r9_0 k12 14 f12, zVi r4_9 k13 28 f13, zV6 r3_8 r14_0 r14_1 r14_2, zVl r14_0 k15 14 f15, zVl r14_1 k16 14 f16, zVi r3_3 k17 4 f17, zVi r4_5 k18 14 f18, zVi r0_4 k19 14 f19] [(k1, .int), (k2, .int), (k5, .int), (k7, .int), (k8, .int), (k10, .int), (k11, .int), (k12, .long), (k13, .int), (k15, .long), (k16, .long), (k17, .int), (k18, .int), (k19, .boolean)] (fun r _ => r = o.1 ∧ narrow .boolean (.int o.1) = .int o.1) [zV3 h0 r0_0 r0_1 v0_2 v0_3 r0_4 r0_5 r0_6 r0_7 v0_8 r0_9 o.2.1 v0_11 v0_12 v0_13 v0_14 v0_15, zVi r0_5 k1 14 f1, zVi r0_9 k2 14 o.2.2.1, zV9 h1 v3_0 r3_1 r3_2 r3_3 r3_4 v3_5 r3_6 r3_7 r3_8, zV4 r3_6 v4_0 v4_1 r4_2 r4_3 r4_4 r4_5 r4_6 r4_7 r4_8 r4_9, zVi r4_8 k5 28 f5, zV2 r3_7 v6_0 v6_1 v6_2 r6_3 r6_4 r6_5, zVi r6_3 k7 14 f7, zVi r3_4 k8 4 f8, zV7 r0_0 r9_0 o.2.2.2.1 o.2.2.2.2.1, zVi r3_2 k10 4 f10, zVi r4_3 k11 14 f11, zVl r9_0 k12 14 o.2.2.2.2.2.1, zVi r4_9 k13 28 f13, zV6 r3_8 r14_0 r14_1 r14_2, zVl r14_0 k15 14 f15, zVl r14_1 k16 14 f16, zVi r3_3 k17 4 f17, zVi r4_5 k18 14 f18, zVi r0_4 k19 14 o.2.2.2.2.2.2] [(k1, .int), (k2, .int), (k5, .int), (k7, .int), (k8, .int), (k10, .int), (k11, .int), (k12, .long), (k13, .int), (k15, .long), (k16, .long), (k17, .int), (k18, .int), (k19, .boolean)] sz := by
  refine zgoNi (cc := cX3_changePart) (maxL := 8) (ret := (some .boolean)) (C0 := RX3) (lv0 := [(0, .ref h0), (1, .ref h1), (2, .int p2), (3, .int p3), (4, .int p4), (5, .int p5)]) zpl_X3 rfl rfl rfl (Nat.le_of_ble_eq_true rfl) ?_
  intro p e s m below meth c A ls Q hN hx hb hr hts hown hlocks hml hP hK hD hA hS hl hQ
  have hn0 : va_Nw (.methodLinkNest RX7 90 yX11_divides RX11) s := hN.1
  unfold fn_X3_changePart at hfn
  refine lv_aload_n hx hb dX3_changePart_0 rfl (lv_at hl 0 rfl) ?_
  refine lv_iload_n hx hb dX3_changePart_1 rfl (lv_at hl 2 rfl) ?_
  refine lv_iload_n hx hb dX3_changePart_2 rfl (lv_at hl 3 rfl) ?_
  refine lv_iload hx hb dX3_changePart_3 (lv_at hl 4 rfl) ?_
  obtain ⟨o_1, hqo_1, hfn⟩ := zb_s hfn
  refine zcVv (ci := 3) (rest := []) (pc' := 8) (ws' := [zV3 h0 r0_0 r0_1 v0_2 v0_3 r0_4 r0_5 r0_6 r0_7 v0_8 r0_9 v0_10 v0_11 v0_12 v0_13 v0_14 v0_15, zVi r0_5 k1 14 f1, zVi r0_9 k2 14 o_1, zV9 h1 v3_0 r3_1 r3_2 r3_3 r3_4 v3_5 r3_6 r3_7 r3_8, zV4 r3_6 v4_0 v4_1 r4_2 r4_3 r4_4 r4_5 r4_6 r4_7 r4_8 r4_9, zVi r4_8 k5 28 f5, zV2 r3_7 v6_0 v6_1 v6_2 r6_3 r6_4 r6_5, zVi r6_3 k7 14 f7, zVi r3_4 k8 4 f8, zV7 r0_0 r9_0 v9_1 v9_2, zVi r3_2 k10 4 f10, zVi r4_3 k11 14 f11, zVl r9_0 k12 14 f12, zVi r4_9 k13 28 f13, zV6 r3_8 r14_0 r14_1 r14_2, zVl r14_0 k15 14 f15, zVl r14_1 k16 14 f16, zVi r3_3 k17 4 f17, zVi r4_5 k18 14 f18, zVi r0_4 k19 14 f19]) hP hK hD hS hA ⟨hx, hb, hml, hown, hts⟩ (zf_X3_setPart l dC dI h0 p2 p3 p4 r0_0 r0_1 v0_2 v0_3 r0_4 r0_5 r0_6 r0_7 v0_8 r0_9 v0_10 v0_11 v0_12 v0_13 v0_14 v0_15 k1 f1 k2 f2 o_1 hqo_1 s.heap.size) (cwV 3 hts gX3_changePart_X3_setPart rfl rfl rfl zhd_X3_setPart ⟨Nat.le_of_ble_eq_true rfl, Nat.le_of_ble_eq_true rfl⟩) [0, 1, 2] rfl (of_decide_eq_true rfl) [0, 1] rfl rfl rfl rfl hl.1 rfl (Nat.le_of_ble_eq_true rfl) dX3_changePart_5 ⟨Nat.le_of_ble_eq_true rfl, Nat.le_of_ble_eq_true rfl⟩ [some 0, some 1, some 2] (of_decide_eq_true rfl) (of_decide_eq_true rfl) rfl rfl rfl (fun H locs hP hD hS => ?_)
  refine lv_aload_n hx hb dX3_changePart_8 rfl (lv_at hl 1 rfl) ?_
  refine lv_aload_n hx hb dX3_changePart_9 rfl (lv_at hl 0 rfl) ?_
  refine va_get (D := (dC, dI)) (ci := 3) (v := .ref r0_9) (C := RX3) (T := TX3) (N := 16) hx hb hts zn_X3_changePart_X3 hown hK hP 0 rfl rfl 9 (of_decide_eq_true rfl) (hts (.fieldLink RX3 35 "ShortEnough$LocalSearch" "row" "[I") zw_X3_changePart_315) (fun _ h9 => h9) rfl dX3_changePart_10 ?_
  obtain ⟨o_5, hqo_5, hfn⟩ := zb_s hfn
  refine zcVi (ci := 9) (rest := []) (pc' := 16) (ws' := [zV3 h0 r0_0 r0_1 v0_2 v0_3 r0_4 r0_5 r0_6 r0_7 v0_8 r0_9 v0_10 v0_11 v0_12 v0_13 v0_14 v0_15, zVi r0_5 k1 14 f1, zVi r0_9 k2 14 o_1, zV9 h1 v3_0 r3_1 r3_2 r3_3 r3_4 v3_5 r3_6 r3_7 r3_8, zV4 r3_6 v4_0 v4_1 r4_2 r4_3 r4_4 r4_5 r4_6 r4_7 r4_8 r4_9, zVi r4_8 k5 28 f5, zV2 r3_7 v6_0 v6_1 v6_2 r6_3 r6_4 r6_5, zVi r6_3 k7 14 f7, zVi r3_4 k8 4 f8, zV7 r0_0 r9_0 v9_1 v9_2, zVi r3_2 k10 4 f10, zVi r4_3 k11 14 f11, zVl r9_0 k12 14 f12, zVi r4_9 k13 28 f13, zV6 r3_8 r14_0 r14_1 r14_2, zVl r14_0 k15 14 f15, zVl r14_1 k16 14 f16, zVi r3_3 k17 4 f17, zVi r4_5 k18 14 f18, zVi r0_4 k19 14 f19]) hP hK hD hS hA ⟨hx, hb, hml, hown, hts⟩ (zf_X9_priceOf l dC dI h1 r0_9 v3_0 r3_1 r3_2 r3_3 r3_4 v3_5 r3_6 r3_7 r3_8 v4_0 v4_1 r4_2 r4_3 r4_4 r4_5 r4_6 r4_7 r4_8 r4_9 k5 f5 v6_0 v6_1 v6_2 r6_3 r6_4 r6_5 k7 f7 k2 o_1 k8 f8 o_5 hqo_5 H.size) (cwV 1 hts gX3_changePart_X9_priceOf rfl rfl rfl zhd_X9_priceOf ⟨Nat.le_of_ble_eq_true rfl, Nat.le_of_ble_eq_true rfl⟩) [3, 4, 5, 6, 7, 2, 8] rfl (of_decide_eq_true rfl) [2, 3, 1, 4] rfl rfl rfl rfl hl.1 rfl (Nat.le_of_ble_eq_true rfl) dX3_changePart_13 ⟨Nat.le_of_ble_eq_true rfl, Nat.le_of_ble_eq_true rfl⟩ [none, none, some 5, some 0, some 1, some 2, some 3, some 4, some 6] (of_decide_eq_true rfl) (of_decide_eq_true rfl) rfl rfl rfl (fun H locs hP hD hS => ?_)
  refine lv_istore (lv' := [(6, .int o_5), (0, .ref h0), (1, .ref h1), (2, .int p2), (3, .int p3), (4, .int p4), (5, .int p5)]) hx hb dX3_changePart_16 hl (of_decide_eq_true rfl) rfl (fun ls hl => ?_)
  refine lv_iload hx hb dX3_changePart_18 (lv_at hl 0 rfl) ?_
  refine lv_aload_n hx hb dX3_changePart_20 rfl (lv_at hl 1 rfl) ?_
  refine va_get (D := (dC, dI)) (ci := 3) (v := .int v0_10) (C := RX3) (T := TX3) (N := 16) hx hb hts zn_X3_changePart_X3 hown hK hP 0 rfl rfl 10 (of_decide_eq_true rfl) (hts (.fieldLink RX3 87 "ShortEnough$LocalSearch" "price" "I") zw_X3_changePart_316) (fun _ h9 => h9) rfl dX3_changePart_21 ?_
  refine lv_icmp_ge (tgt := 46) hx hb dX3_changePart_24 (of_decide_eq_true rfl) (fun c_9 => ?_) (fun c_9 => ?_)
  · have hfn := (if_pos c_9).symm.trans hfn
    refine lv_aload_n hx hb dX3_changePart_46 rfl (lv_at hl 1 rfl) ?_
    refine lv_iload_n hx hb dX3_changePart_47 rfl (lv_at hl 3 rfl) ?_
    refine lv_iload_n hx hb dX3_changePart_48 rfl (lv_at hl 4 rfl) ?_
    refine lv_iload hx hb dX3_changePart_49 (lv_at hl 6 rfl) ?_
    obtain ⟨o_10, hqo_10, hfn⟩ := zb_s hfn
    refine zcVv (ci := 3) (rest := []) (pc' := 54) (ws' := [zV3 h0 r0_0 r0_1 v0_2 v0_3 r0_4 r0_5 r0_6 r0_7 v0_8 r0_9 v0_10 v0_11 v0_12 v0_13 v0_14 v0_15, zVi r0_5 k1 14 f1, zVi r0_9 k2 14 o_10, zV9 h1 v3_0 r3_1 r3_2 r3_3 r3_4 v3_5 r3_6 r3_7 r3_8, zV4 r3_6 v4_0 v4_1 r4_2 r4_3 r4_4 r4_5 r4_6 r4_7 r4_8 r4_9, zVi r4_8 k5 28 f5, zV2 r3_7 v6_0 v6_1 v6_2 r6_3 r6_4 r6_5, zVi r6_3 k7 14 f7, zVi r3_4 k8 4 f8, zV7 r0_0 r9_0 v9_1 v9_2, zVi r3_2 k10 4 f10, zVi r4_3 k11 14 f11, zVl r9_0 k12 14 f12, zVi r4_9 k13 28 f13, zV6 r3_8 r14_0 r14_1 r14_2, zVl r14_0 k15 14 f15, zVl r14_1 k16 14 f16, zVi r3_3 k17 4 f17, zVi r4_5 k18 14 f18, zVi r0_4 k19 14 f19]) hP hK hD hS hA ⟨hx, hb, hml, hown, hts⟩ (zf_X3_setPart l dC dI h0 p2 p3 p5 r0_0 r0_1 v0_2 v0_3 r0_4 r0_5 r0_6 r0_7 v0_8 r0_9 v0_10 v0_11 v0_12 v0_13 v0_14 v0_15 k1 f1 k2 o_1 o_10 hqo_10 H.size) (cwV 3 hts gX3_changePart_X3_setPart rfl rfl rfl zhd_X3_setPart ⟨Nat.le_of_ble_eq_true rfl, Nat.le_of_ble_eq_true rfl⟩) [0, 1, 2] rfl (of_decide_eq_true rfl) [0, 1] rfl rfl rfl rfl hl.1 rfl (Nat.le_of_ble_eq_true rfl) dX3_changePart_51 ⟨Nat.le_of_ble_eq_true rfl, Nat.le_of_ble_eq_true rfl⟩ [some 0, some 1, some 2] (of_decide_eq_true rfl) (of_decide_eq_true rfl) rfl rfl rfl (fun H locs hP hD hS => ?_)
    refine lv_iconst (v := 0) hx hb dX3_changePart_54 zci_0 ?_
    have ho := Option.some.inj hfn
    subst ho
    exact zrz hx hb hr rfl hK hP hD hS hQ ⟨rfl, zB0⟩ hlocks dX3_changePart_55
  have hfn := (if_neg c_9).symm.trans hfn
  refine lv_aload_n hx hb dX3_changePart_27 rfl (lv_at hl 1 rfl) ?_
  refine va_get (D := (dC, dI)) (ci := 3) (v := .ref r0_0) (C := RX3) (T := TX3) (N := 16) hx hb hts zn_X3_changePart_X3 hown hK hP 0 rfl rfl 0 (of_decide_eq_true rfl) (hts (.fieldLink RX3 12 "ShortEnough$LocalSearch" "reckoning" "LShortEnough$Reckoning;") zw_X3_changePart_317) (fun _ h9 => h9) rfl dX3_changePart_28 ?_
  refine lv_aload_n hx hb dX3_changePart_31 rfl (lv_at hl 2 rfl) ?_
  refine lv_aload_n hx hb dX3_changePart_32 rfl (lv_at hl 2 rfl) ?_
  refine va_get (D := (dC, dI)) (ci := 9) (v := .ref r3_8) (C := RX9) (T := TX9) (N := 9) hx hb hts zn_X3_changePart_X9 hown hK hP 3 rfl rfl 8 (of_decide_eq_true rfl) (hts (.fieldLink RX3 75 "ShortEnough$Task" "ranges" "LShortEnough$Ranges;") zw_X3_changePart_319) (fun _ h9 => h9) rfl dX3_changePart_33 ?_
  refine lv_aload_n hx hb dX3_changePart_36 rfl (lv_at hl 1 rfl) ?_
  refine va_get (D := (dC, dI)) (ci := 3) (v := .ref r0_9) (C := RX3) (T := TX3) (N := 16) hx hb hts zn_X3_changePart_X3 hown hK hP 0 rfl rfl 9 (of_decide_eq_true rfl) (hts (.fieldLink RX3 35 "ShortEnough$LocalSearch" "row" "[I") zw_X3_changePart_315) (fun _ h9 => h9) rfl dX3_changePart_37 ?_
  obtain ⟨o_14, hqo_14, hfn⟩ := zb_s hfn
  refine zcNVb (ci := 7) (rest := []) (pc' := 43) (ws' := [zV3 h0 r0_0 r0_1 v0_2 v0_3 r0_4 r0_5 r0_6 r0_7 v0_8 r0_9 v0_10 v0_11 v0_12 v0_13 v0_14 v0_15, zVi r0_5 k1 14 f1, zVi r0_9 k2 14 o_1, zV9 h1 v3_0 r3_1 r3_2 r3_3 r3_4 v3_5 r3_6 r3_7 r3_8, zV4 r3_6 v4_0 v4_1 r4_2 r4_3 r4_4 r4_5 r4_6 r4_7 r4_8 r4_9, zVi r4_8 k5 28 f5, zV2 r3_7 v6_0 v6_1 v6_2 r6_3 r6_4 r6_5, zVi r6_3 k7 14 f7, zVi r3_4 k8 4 f8, zV7 r0_0 r9_0 o_14.2.1 o_14.2.2.1, zVi r3_2 k10 4 f10, zVi r4_3 k11 14 f11, zVl r9_0 k12 14 o_14.2.2.2, zVi r4_9 k13 28 f13, zV6 r3_8 r14_0 r14_1 r14_2, zVl r14_0 k15 14 f15, zVl r14_1 k16 14 f16, zVi r3_3 k17 4 f17, zVi r4_5 k18 14 f18, zVi r0_4 k19 14 f19]) hP hK hD hS hA ⟨hx, hb, hml, hown, hts⟩ (zf_X7_reckon l dC dI r0_0 h1 r3_8 r0_9 r9_0 v9_1 v9_2 v3_0 r3_1 r3_2 r3_3 r3_4 v3_5 r3_6 r3_7 r3_8 v4_0 v4_1 r4_2 r4_3 r4_4 r4_5 r4_6 r4_7 r4_8 r4_9 v6_0 v6_1 v6_2 r6_3 r6_4 r6_5 k7 f7 k2 o_1 k10 f10 k11 f11 k5 f5 k12 f12 k13 f13 r14_0 r14_1 r14_2 k15 f15 k16 f16 k17 f17 k18 f18 o_14 hqo_14 H.size) ⟨hn0, trivial⟩ (cwV 3 hts gX3_changePart_X7_reckon rfl rfl rfl zhd_X7_reckon ⟨Nat.le_of_ble_eq_true rfl, Nat.le_of_ble_eq_true rfl⟩) [9, 3, 4, 6, 7, 2, 10, 11, 5, 12, 13, 14, 15, 16, 17, 18] rfl (of_decide_eq_true rfl) [3, 1, 5, 6, 2, 7, 8, 9, 10, 11, 12] rfl rfl rfl rfl hl.1 rfl (Nat.le_of_ble_eq_true rfl) dX3_changePart_40 ⟨Nat.le_of_ble_eq_true rfl, Nat.le_of_ble_eq_true rfl⟩ [none, none, some 5, some 1, some 2, some 8, some 3, some 4, none, some 0, some 6, some 7, some 9, some 10, some 11, some 12, some 13, some 14, some 15] (of_decide_eq_true rfl) (of_decide_eq_true rfl) rfl rfl rfl (fun H locs hw_17n hP hD hS => ?_)
  refine lv_if_ne (tgt := 56) hx hb dX3_changePart_43 (of_decide_eq_true rfl) (fun c_18 => ?_) (fun c_18 => ?_)
  · have hfn := (if_neg c_18).symm.trans hfn
    refine lv_aload_n hx hb dX3_changePart_56 rfl (lv_at hl 1 rfl) ?_
    refine lv_iload hx hb dX3_changePart_57 (lv_at hl 0 rfl) ?_
    refine va_put (D := (dC, dI)) (ci := 3) (v := .int o_5) (ty := .int) (C := RX3) (T := TX3) (N := 16) hx hb hts zn_X3_changePart_X3 tyX3 tyX3_ok nmX3 hown hK hP hD hS 0 rfl rfl 10 (of_decide_eq_true rfl) (hts (.fieldLink RX3 87 "ShortEnough$LocalSearch" "price" "I") zw_X3_changePart_316) (fun _ h9 => h9) rfl (tyX3_ok 10 (of_decide_eq_true rfl)) rfl rfl (Nat.le_of_ble_eq_true rfl) dX3_changePart_59 (fun H locs hP hD hS => ?_)
    have hP : va_P (dC, dI) vwCl [zV3 h0 r0_0 r0_1 v0_2 v0_3 r0_4 r0_5 r0_6 r0_7 v0_8 r0_9 o_5 v0_11 v0_12 v0_13 v0_14 v0_15, zVi r0_5 k1 14 f1, zVi r0_9 k2 14 o_1, zV9 h1 v3_0 r3_1 r3_2 r3_3 r3_4 v3_5 r3_6 r3_7 r3_8, zV4 r3_6 v4_0 v4_1 r4_2 r4_3 r4_4 r4_5 r4_6 r4_7 r4_8 r4_9, zVi r4_8 k5 28 f5, zV2 r3_7 v6_0 v6_1 v6_2 r6_3 r6_4 r6_5, zVi r6_3 k7 14 f7, zVi r3_4 k8 4 f8, zV7 r0_0 r9_0 o_14.2.1 o_14.2.2.1, zVi r3_2 k10 4 f10, zVi r4_3 k11 14 f11, zVl r9_0 k12 14 o_14.2.2.2, zVi r4_9 k13 28 f13, zV6 r3_8 r14_0 r14_1 r14_2, zVl r14_0 k15 14 f15, zVl r14_1 k16 14 f16, zVi r3_3 k17 4 f17, zVi r4_5 k18 14 f18, zVi r0_4 k19 14 f19] H := hP
    have hD := zDW hD hP rfl
    refine lv_iload_n hx hb dX3_changePart_62 rfl (lv_at hl 3 rfl) ?_
    refine lv_istore (lv' := [(7, .int p2), (6, .int o_5), (0, .ref h0), (1, .ref h1), (2, .int p2), (3, .int p3), (4, .int p4), (5, .int p5)]) hx hb dX3_changePart_63 hl (of_decide_eq_true rfl) rfl (fun ls hl => ?_)
    obtain ⟨bd_19, ebd_19, hfn⟩ := zl_g hfn
    have lp_19 : ∀ (n : Nat) (s_19 : Int32 × (Nat → Int32)) (H : Heap) (locs : List Loc) (ls : Array Slot), zl bd_19 n s_19 = some o → va_P (dC, dI) vwCl [zV3 h0 r0_0 r0_1 v0_2 v0_3 r0_4 r0_5 r0_6 r0_7 v0_8 r0_9 o_5 v0_11 v0_12 v0_13 v0_14 v0_15, zVi r0_5 k1 14 f1, zVi r0_9 k2 14 o_1, zV9 h1 v3_0 r3_1 r3_2 r3_3 r3_4 v3_5 r3_6 r3_7 r3_8, zV4 r3_6 v4_0 v4_1 r4_2 r4_3 r4_4 r4_5 r4_6 r4_7 r4_8 r4_9, zVi r4_8 k5 28 f5, zV2 r3_7 v6_0 v6_1 v6_2 r6_3 r6_4 r6_5, zVi r6_3 k7 14 f7, zVi r3_4 k8 4 f8, zV7 r0_0 r9_0 o_14.2.1 o_14.2.2.1, zVi r3_2 k10 4 f10, zVi r4_3 k11 14 f11, zVl r9_0 k12 14 o_14.2.2.2, zVi r4_9 k13 28 f13, zV6 r3_8 r14_0 r14_1 r14_2, zVl r14_0 k15 14 f15, zVl r14_1 k16 14 f16, zVi r3_3 k17 4 f17, zVi r4_5 k18 14 f18, zVi r0_4 k19 14 s_19.2] H → va_D A [zV3 h0 r0_0 r0_1 v0_2 v0_3 r0_4 r0_5 r0_6 r0_7 v0_8 r0_9 o_5 v0_11 v0_12 v0_13 v0_14 v0_15, zVi r0_5 k1 14 f1, zVi r0_9 k2 14 o_1, zV9 h1 v3_0 r3_1 r3_2 r3_3 r3_4 v3_5 r3_6 r3_7 r3_8, zV4 r3_6 v4_0 v4_1 r4_2 r4_3 r4_4 r4_5 r4_6 r4_7 r4_8 r4_9, zVi r4_8 k5 28 f5, zV2 r3_7 v6_0 v6_1 v6_2 r6_3 r6_4 r6_5, zVi r6_3 k7 14 f7, zVi r3_4 k8 4 f8, zV7 r0_0 r9_0 o_14.2.1 o_14.2.2.1, zVi r3_2 k10 4 f10, zVi r4_3 k11 14 f11, zVl r9_0 k12 14 o_14.2.2.2, zVi r4_9 k13 28 f13, zV6 r3_8 r14_0 r14_1 r14_2, zVl r14_0 k15 14 f15, zVl r14_1 k16 14 f16, zVi r3_3 k17 4 f17, zVi r4_5 k18 14 f18, zVi r0_4 k19 14 s_19.2] → va_S A s.heap H locs → lv_has ls 8 [(7, .int s_19.1), (0, .ref h0), (3, .int p3)] → W p l e (headSpec wsX3_changePart ({ frames := 4, cells := 0, slots := 0, locals := 125 })).room s m ([.ref h0, .ref h1, .int p2, .int p3, .int p4, .int p5] : List Value).toArray below meth c H locs 0 0 Q (F0 m 65 ls []) := by
      intro n
      induction n with
      | zero => exact fun _ _ _ _ hfn => (zl_0 hfn).elim
      | succ n ih_19 =>
        intro s_19 H locs ls hfn hP hD hS hl
        have hfn := zl_s ebd_19 hfn
        refine lv_iload hx hb dX3_changePart_65 (lv_at hl 0 rfl) ?_
        refine lv_iload_n hx hb dX3_changePart_67 rfl (lv_at hl 2 rfl) ?_
        refine lv_icmp_ge (tgt := 90) hx hb dX3_changePart_68 (of_decide_eq_true rfl) (fun c_20 => ?_) (fun c_20 => ?_)
        · have hfn := (if_pos c_20).symm.trans hfn
          refine lv_iconst (v := 1) hx hb dX3_changePart_90 zci_1 ?_
          have ho := Option.some.inj hfn
          subst ho
          exact zrz hx hb hr rfl hK hP hD hS hQ ⟨rfl, zB1⟩ hlocks dX3_changePart_91
        have hfn := (if_neg c_20).symm.trans hfn
        refine lv_aload_n hx hb dX3_changePart_71 rfl (lv_at hl 1 rfl) ?_
        refine va_get (D := (dC, dI)) (ci := 3) (v := .ref r0_4) (C := RX3) (T := TX3) (N := 16) hx hb hts zn_X3_changePart_X3 hown hK hP 0 rfl rfl 4 (of_decide_eq_true rfl) (hts (.fieldLink RX3 22 "ShortEnough$LocalSearch" "changed" "[Z") zw_X3_changePart_320) (fun _ h9 => h9) rfl dX3_changePart_72 ?_
        refine lv_aload_n hx hb dX3_changePart_75 rfl (lv_at hl 1 rfl) ?_
        refine va_get (D := (dC, dI)) (ci := 3) (v := .ref r0_5) (C := RX3) (T := TX3) (N := 16) hx hb hts zn_X3_changePart_X3 hown hK hP 0 rfl rfl 5 (of_decide_eq_true rfl) (hts (.fieldLink RX3 26 "ShortEnough$LocalSearch" "unchanged" "[I") zw_X3_changePart_321) (fun _ h9 => h9) rfl dX3_changePart_76 ?_
        refine lv_iload hx hb dX3_changePart_79 (lv_at hl 0 rfl) ?_
        obtain ⟨h_21, hfn⟩ := zg_s hfn
        refine va_iald hx hb hK hP 1 0 rfl rfl h_21 dX3_changePart_81 ?_
        refine lv_iconst (v := 1) hx hb dX3_changePart_82 zci_1 ?_
        obtain ⟨h_22, hfn⟩ := zg_s hfn
        refine va_zast hx hb hK hP hD hS 19 13 rfl rfl h_22 dX3_changePart_83 (fun H locs hP hD hS => ?_)
        obtain ⟨g_23, eg_23⟩ : ∃ g : Nat → Int32, g = (upd s_19.2 (f1 s_19.1.toNatClampNeg).toNatClampNeg (vp_nar .boolean 1)) := ⟨_, rfl⟩
        have hfn := zn_s hfn eg_23
        have hP : va_P (dC, dI) vwCl [zV3 h0 r0_0 r0_1 v0_2 v0_3 r0_4 r0_5 r0_6 r0_7 v0_8 r0_9 o_5 v0_11 v0_12 v0_13 v0_14 v0_15, zVi r0_5 k1 14 f1, zVi r0_9 k2 14 o_1, zV9 h1 v3_0 r3_1 r3_2 r3_3 r3_4 v3_5 r3_6 r3_7 r3_8, zV4 r3_6 v4_0 v4_1 r4_2 r4_3 r4_4 r4_5 r4_6 r4_7 r4_8 r4_9, zVi r4_8 k5 28 f5, zV2 r3_7 v6_0 v6_1 v6_2 r6_3 r6_4 r6_5, zVi r6_3 k7 14 f7, zVi r3_4 k8 4 f8, zV7 r0_0 r9_0 o_14.2.1 o_14.2.2.1, zVi r3_2 k10 4 f10, zVi r4_3 k11 14 f11, zVl r9_0 k12 14 o_14.2.2.2, zVi r4_9 k13 28 f13, zV6 r3_8 r14_0 r14_1 r14_2, zVl r14_0 k15 14 f15, zVl r14_1 k16 14 f16, zVi r3_3 k17 4 f17, zVi r4_5 k18 14 f18, zVi r0_4 k19 14 g_23] H := by rw [eg_23]; exact hP
        have hD : va_D A [zV3 h0 r0_0 r0_1 v0_2 v0_3 r0_4 r0_5 r0_6 r0_7 v0_8 r0_9 o_5 v0_11 v0_12 v0_13 v0_14 v0_15, zVi r0_5 k1 14 f1, zVi r0_9 k2 14 o_1, zV9 h1 v3_0 r3_1 r3_2 r3_3 r3_4 v3_5 r3_6 r3_7 r3_8, zV4 r3_6 v4_0 v4_1 r4_2 r4_3 r4_4 r4_5 r4_6 r4_7 r4_8 r4_9, zVi r4_8 k5 28 f5, zV2 r3_7 v6_0 v6_1 v6_2 r6_3 r6_4 r6_5, zVi r6_3 k7 14 f7, zVi r3_4 k8 4 f8, zV7 r0_0 r9_0 o_14.2.1 o_14.2.2.1, zVi r3_2 k10 4 f10, zVi r4_3 k11 14 f11, zVl r9_0 k12 14 o_14.2.2.2, zVi r4_9 k13 28 f13, zV6 r3_8 r14_0 r14_1 r14_2, zVl r14_0 k15 14 f15, zVl r14_1 k16 14 f16, zVi r3_3 k17 4 f17, zVi r4_5 k18 14 f18, zVi r0_4 k19 14 g_23] := by rw [eg_23]; exact hD
        refine lv_iinc (v := (s_19.1 + 1)) (lv' := [(7, .int (s_19.1 + 1)), (0, .ref h0), (3, .int p3)]) hx hb dX3_changePart_84 hl (k := 0) rfl rfl (of_decide_eq_true rfl) rfl (fun ls hl => ?_)
        refine lv_goto (tgt := 65) hx hb dX3_changePart_87 (of_decide_eq_true rfl) ?_
        exact ih_19 ((s_19.1 + 1), g_23) H locs ls hfn hP hD hS (lv_sub hl [0, 1, 2] rfl)
    exact lp_19 _ (p2, f19) H locs ls hfn hP hD hS (lv_sub hl [0, 2, 5] rfl)
  have hfn := (if_pos c_18).symm.trans hfn
  refine lv_aload_n hx hb dX3_changePart_46 rfl (lv_at hl 1 rfl) ?_
  refine lv_iload_n hx hb dX3_changePart_47 rfl (lv_at hl 3 rfl) ?_
  refine lv_iload_n hx hb dX3_changePart_48 rfl (lv_at hl 4 rfl) ?_
  refine lv_iload hx hb dX3_changePart_49 (lv_at hl 6 rfl) ?_
  obtain ⟨o_24, hqo_24, hfn⟩ := zb_s hfn
  refine zcVv (ci := 3) (rest := []) (pc' := 54) (ws' := [zV3 h0 r0_0 r0_1 v0_2 v0_3 r0_4 r0_5 r0_6 r0_7 v0_8 r0_9 v0_10 v0_11 v0_12 v0_13 v0_14 v0_15, zVi r0_5 k1 14 f1, zVi r0_9 k2 14 o_24, zV9 h1 v3_0 r3_1 r3_2 r3_3 r3_4 v3_5 r3_6 r3_7 r3_8, zV4 r3_6 v4_0 v4_1 r4_2 r4_3 r4_4 r4_5 r4_6 r4_7 r4_8 r4_9, zVi r4_8 k5 28 f5, zV2 r3_7 v6_0 v6_1 v6_2 r6_3 r6_4 r6_5, zVi r6_3 k7 14 f7, zVi r3_4 k8 4 f8, zV7 r0_0 r9_0 o_14.2.1 o_14.2.2.1, zVi r3_2 k10 4 f10, zVi r4_3 k11 14 f11, zVl r9_0 k12 14 o_14.2.2.2, zVi r4_9 k13 28 f13, zV6 r3_8 r14_0 r14_1 r14_2, zVl r14_0 k15 14 f15, zVl r14_1 k16 14 f16, zVi r3_3 k17 4 f17, zVi r4_5 k18 14 f18, zVi r0_4 k19 14 f19]) hP hK hD hS hA ⟨hx, hb, hml, hown, hts⟩ (zf_X3_setPart l dC dI h0 p2 p3 p5 r0_0 r0_1 v0_2 v0_3 r0_4 r0_5 r0_6 r0_7 v0_8 r0_9 v0_10 v0_11 v0_12 v0_13 v0_14 v0_15 k1 f1 k2 o_1 o_24 hqo_24 H.size) (cwV 3 hts gX3_changePart_X3_setPart rfl rfl rfl zhd_X3_setPart ⟨Nat.le_of_ble_eq_true rfl, Nat.le_of_ble_eq_true rfl⟩) [0, 1, 2] rfl (of_decide_eq_true rfl) [0, 1] rfl rfl rfl rfl hl.1 rfl (Nat.le_of_ble_eq_true rfl) dX3_changePart_51 ⟨Nat.le_of_ble_eq_true rfl, Nat.le_of_ble_eq_true rfl⟩ [some 0, some 1, some 2] (of_decide_eq_true rfl) (of_decide_eq_true rfl) rfl rfl rfl (fun H locs hP hD hS => ?_)
  refine lv_iconst (v := 0) hx hb dX3_changePart_54 zci_0 ?_
  have ho := Option.some.inj hfn
  subst ho
  exact zrz hx hb hr rfl hK hP hD hS hQ ⟨rfl, zB0⟩ hlocks dX3_changePart_55
theorem zn_X3_halveWith_X3 : ∀ w ∈ wsX30, w ∈ wsX3_halveWith := fun _ h => List.mem_cons_of_mem _ (List.mem_append_left _ (List.mem_append_left _ (List.mem_append_left _ (List.mem_append_left _ (List.mem_append_left _ (List.mem_append_right _ h))))))
theorem zw_X3_halveWith_303 : Cond.fieldLink RX3 101 "ShortEnough$LocalSearch" "parts" "I" ∈ wsX3_halveWith := List.mem_of_getElem? (i := 1) (by decide +kernel)
theorem zw_X3_halveWith_308 : Cond.fieldLink RX3 29 "ShortEnough$LocalSearch" "partFrom" "[I" ∈ wsX3_halveWith := List.mem_of_getElem? (i := 2) (by decide +kernel)
theorem zw_X3_halveWith_309 : Cond.fieldLink RX3 32 "ShortEnough$LocalSearch" "partTo" "[I" ∈ wsX3_halveWith := List.mem_of_getElem? (i := 3) (by decide +kernel)
theorem zw_X3_halveWith_310 : Cond.fieldLink RX3 72 "ShortEnough$LocalSearch" "tries" "I" ∈ wsX3_halveWith := List.mem_of_getElem? (i := 4) (by decide +kernel)
set_option maxHeartbeats 4000000 in
set_option maxRecDepth 100000 in
theorem zf_X3_halveWith (l : Launch) (dC : Nat → ClassId) (dI : Nat → Nat → Nat) (h0 : Nat) (h1 : Nat) (p2 : Int32) (p3 : Int32) (r0_0 : Nat) (r0_1 : Nat) (v0_2 : Int32) (v0_3 : Int32) (r0_4 : Nat) (r0_5 : Nat) (r0_6 : Nat) (r0_7 : Nat) (v0_8 : Int32) (r0_9 : Nat) (v0_10 : Int32) (v0_11 : Int32) (v0_12 : Int32) (v0_13 : Int32) (v0_14 : Int32) (v0_15 : Int32) (v1_0 : Int32) (r1_1 : Nat) (r1_2 : Nat) (r1_3 : Nat) (r1_4 : Nat) (v1_5 : Int32) (r1_6 : Nat) (r1_7 : Nat) (r1_8 : Nat) (v2_0 : Int32) (v2_1 : Int32) (v2_2 : Int32) (r2_3 : Nat) (r2_4 : Nat) (r2_5 : Nat) (k3 : Nat) (f3 : Nat → Int32) (k4 : Nat) (f4 : Nat → Int32) (k5 : Nat) (f5 : Nat → Int32) (k6 : Nat) (f6 : Nat → Int32) (k7 : Nat) (f7 : Nat → Int32) (k8 : Nat) (f8 : Nat → Int32) (v9_0 : Int32) (v9_1 : Int32) (r9_2 : Nat) (r9_3 : Nat) (r9_4 : Nat) (r9_5 : Nat) (r9_6 : Nat) (r9_7 : Nat) (r9_8 : Nat) (r9_9 : Nat) (k10 : Nat) (f10 : Nat → Int32) (k11 : Nat) (f11 : Nat → Int32) (k12 : Nat) (f12 : Nat → Int32) (r13_0 : Nat) (v13_1 : Int32) (v13_2 : Int32) (k14 : Nat) (f14 : Nat → Int32) (k15 : Nat) (f15 : Nat → Int32) (k16 : Nat) (f16 : Nat → Int64) (k17 : Nat) (f17 : Nat → Int32) (r18_0 : Nat) (r18_1 : Nat) (r18_2 : Nat) (k19 : Nat) (f19 : Nat → Int64) (k20 : Nat) (f20 : Nat → Int64) (k21 : Nat) (f21 : Nat → Int32) (k22 : Nat) (f22 : Nat → Int32) (o : Int32 × Int32 × Int32 × (Nat → Int32) × (Nat → Int32) × (Nat → Int32) × (Nat → Int32) × (Nat → Int32) × Int32 × Int32 × (Nat → Int64)) (hfn : fn_X3_halveWith p2 p3 v0_10 v0_11 v1_0 v1_5 v2_0 f3 f4 f5 f6 f7 f8 v9_0 f10 f11 f12 v13_1 v13_2 f14 f15 f16 f17 f19 f20 f21 f22 = some o) (sz : Nat) : zNv [(RX7, 90, yX11_divides, RX11)] l yX3_halveWith wsX3_halveWith ({ frames := 5, cells := 0, slots := 0, locals := 152 }) (dC, dI) vwCl [.ref h0, .ref h1, .int p2, .int p3] [zV3 h0 r0_0 r0_1 v0_2 v0_3 r0_4 r0_5 r0_6 r0_7 v0_8 r0_9 v0_10 v0_11 v0_12 v0_13 v0_14 v0_15, zV9 h1 v1_0 r1_1 r1_2 r1_3 r1_4 v1_5 r1_6 r1_7 r1_8, zV2 r1_7 v2_0 v2_1 v2_2 r2_3 r2_4 r2_5, zVi r2_4 k3 14 f3, zVi r0_4 k4 14 f4, zVi r0_5 k5 14 f5, zVi r0_6 k6 28 f6, zVi r0_7 k7 28 f7, zVi r0_9 k8 14 f8, zV4 r1_6 v9_0 v9_1 r9_2 r9_3 r9_4 r9_5 r9_6 r9_7 r9_8 r9_9, zVi r9_8 k10 28 f10, zVi r2_3 k11 14 f11, zVi r1_4 k12 4 f12, zV7 r0_0 r13_0 v13_1 v13_2, zVi r1_2 k14 4 f14, zVi r9_3 k15 14 f15, zVl r13_0 k16 14 f16, zVi r9_9 k17 28 f17, zV6 r1_8 r18_0 r18_1 r18_2, zVl r18_0 k19 14 f19, zVl r18_1 k20 14 f20, zVi r1_3 k21 4 f21, zVi r9_5 k22 14 f22] [(k3, .int), (k4, .boolean), (k5, .int), (k6, .int), (k7, .int), (k8, .int), (k10, .int), (k11, .int), (k12, .int), (k14, .int), (k15, .int), (k16, .long), (k17, .int), (k19, .long), (k20, .long), (k21, .int), (k22, .int)] (fun _ => True) [zV3 h0 r0_0 r0_1 v0_2 v0_3 r0_4 r0_5 r0_6 r0_7 o.2.2.1 r0_9 o.1 o.2.1 v0_12 v0_13 v0_14 v0_15, zV9 h1 v1_0 r1_1 r1_2 r1_3 r1_4 v1_5 r1_6 r1_7 r1_8, zV2 r1_7 v2_0 v2_1 v2_2 r2_3 r2_4 r2_5, zVi r2_4 k3 14 f3, zVi r0_4 k4 14 o.2.2.2.1, zVi r0_5 k5 14 o.2.2.2.2.1, zVi r0_6 k6 28 o.2.2.2.2.2.1, zVi r0_7 k7 28 o.2.2.2.2.2.2.1, zVi r0_9 k8 14 o.2.2.2.2.2.2.2.1, zV4 r1_6 v9_0 v9_1 r9_2 r9_3 r9_4 r9_5 r9_6 r9_7 r9_8 r9_9, zVi r9_8 k10 28 f10, zVi r2_3 k11 14 f11, zVi r1_4 k12 4 f12, zV7 r0_0 r13_0 o.2.2.2.2.2.2.2.2.1 o.2.2.2.2.2.2.2.2.2.1, zVi r1_2 k14 4 f14, zVi r9_3 k15 14 f15, zVl r13_0 k16 14 o.2.2.2.2.2.2.2.2.2.2, zVi r9_9 k17 28 f17, zV6 r1_8 r18_0 r18_1 r18_2, zVl r18_0 k19 14 f19, zVl r18_1 k20 14 f20, zVi r1_3 k21 4 f21, zVi r9_5 k22 14 f22] [(k3, .int), (k4, .boolean), (k5, .int), (k6, .int), (k7, .int), (k8, .int), (k10, .int), (k11, .int), (k12, .int), (k14, .int), (k15, .int), (k16, .long), (k17, .int), (k19, .long), (k20, .long), (k21, .int), (k22, .int)] sz := by
  refine zgoNv (cc := cX3_halveWith) (maxL := 9) (ret := none) (C0 := RX3) (lv0 := [(0, .ref h0), (1, .ref h1), (2, .int p2), (3, .int p3)]) zpl_X3 rfl rfl rfl (Nat.le_of_ble_eq_true rfl) ?_
  intro p e s m below meth c A ls Q hN hx hb hr hts hown hlocks hml hP hK hD hA hS hl hQ
  have hn0 : va_Nw (.methodLinkNest RX7 90 yX11_divides RX11) s := hN.1
  unfold fn_X3_halveWith at hfn
  refine lv_aload_n hx hb dX3_halveWith_0 rfl (lv_at hl 0 rfl) ?_
  refine lv_aload_n hx hb dX3_halveWith_1 rfl (lv_at hl 1 rfl) ?_
  obtain ⟨o_1, hqo_1, hfn⟩ := zb_s hfn
  refine zcVi (ci := 3) (rest := []) (pc' := 5) (ws' := [zV3 h0 r0_0 r0_1 v0_2 v0_3 r0_4 r0_5 r0_6 r0_7 v0_8 r0_9 v0_10 v0_11 v0_12 v0_13 v0_14 v0_15, zV9 h1 v1_0 r1_1 r1_2 r1_3 r1_4 v1_5 r1_6 r1_7 r1_8, zV2 r1_7 v2_0 v2_1 v2_2 r2_3 r2_4 r2_5, zVi r2_4 k3 14 f3, zVi r0_4 k4 14 f4, zVi r0_5 k5 14 o_1.2, zVi r0_6 k6 28 f6, zVi r0_7 k7 28 f7, zVi r0_9 k8 14 f8, zV4 r1_6 v9_0 v9_1 r9_2 r9_3 r9_4 r9_5 r9_6 r9_7 r9_8 r9_9, zVi r9_8 k10 28 f10, zVi r2_3 k11 14 f11, zVi r1_4 k12 4 f12, zV7 r0_0 r13_0 v13_1 v13_2, zVi r1_2 k14 4 f14, zVi r9_3 k15 14 f15, zVl r13_0 k16 14 f16, zVi r9_9 k17 28 f17, zV6 r1_8 r18_0 r18_1 r18_2, zVl r18_0 k19 14 f19, zVl r18_1 k20 14 f20, zVi r1_3 k21 4 f21, zVi r9_5 k22 14 f22]) hP hK hD hS hA ⟨hx, hb, hml, hown, hts⟩ (zf_X3_findUnchanged l dC dI h0 h1 r0_0 r0_1 v0_2 v0_3 r0_4 r0_5 r0_6 r0_7 v0_8 r0_9 v0_10 v0_11 v0_12 v0_13 v0_14 v0_15 v1_0 r1_1 r1_2 r1_3 r1_4 v1_5 r1_6 r1_7 r1_8 v2_0 v2_1 v2_2 r2_3 r2_4 r2_5 k3 f3 k4 f4 k5 f5 o_1 hqo_1 s.heap.size) (cwV 1 hts gX3_halveWith_X3_findUnchanged rfl rfl rfl zhd_X3_findUnchanged ⟨Nat.le_of_ble_eq_true rfl, Nat.le_of_ble_eq_true rfl⟩) [0, 1, 2, 3, 4, 5] rfl (of_decide_eq_true rfl) [0, 1, 2] rfl rfl rfl rfl hl.1 rfl (Nat.le_of_ble_eq_true rfl) dX3_halveWith_2 ⟨Nat.le_of_ble_eq_true rfl, Nat.le_of_ble_eq_true rfl⟩ [some 0, some 1, some 2, some 3, some 4, some 5] (of_decide_eq_true rfl) (of_decide_eq_true rfl) rfl rfl rfl (fun H locs hP hD hS => ?_)
  refine lv_istore (lv' := [(4, .int o_1.1), (0, .ref h0), (1, .ref h1), (2, .int p2), (3, .int p3)]) hx hb dX3_halveWith_5 hl (of_decide_eq_true rfl) rfl (fun ls hl => ?_)
  refine lv_aload_n hx hb dX3_halveWith_7 rfl (lv_at hl 1 rfl) ?_
  refine lv_iconst (v := 0) hx hb dX3_halveWith_8 zci_0 ?_
  refine va_put (D := (dC, dI)) (ci := 3) (v := .int 0) (ty := .int) (C := RX3) (T := TX3) (N := 16) hx hb hts zn_X3_halveWith_X3 tyX3 tyX3_ok nmX3 hown hK hP hD hS 0 rfl rfl 8 (of_decide_eq_true rfl) (hts (.fieldLink RX3 101 "ShortEnough$LocalSearch" "parts" "I") zw_X3_halveWith_303) (fun _ h9 => h9) rfl (tyX3_ok 8 (of_decide_eq_true rfl)) rfl rfl (Nat.le_of_ble_eq_true rfl) dX3_halveWith_9 (fun H locs hP hD hS => ?_)
  have hP : va_P (dC, dI) vwCl [zV3 h0 r0_0 r0_1 v0_2 v0_3 r0_4 r0_5 r0_6 r0_7 0 r0_9 v0_10 v0_11 v0_12 v0_13 v0_14 v0_15, zV9 h1 v1_0 r1_1 r1_2 r1_3 r1_4 v1_5 r1_6 r1_7 r1_8, zV2 r1_7 v2_0 v2_1 v2_2 r2_3 r2_4 r2_5, zVi r2_4 k3 14 f3, zVi r0_4 k4 14 f4, zVi r0_5 k5 14 o_1.2, zVi r0_6 k6 28 f6, zVi r0_7 k7 28 f7, zVi r0_9 k8 14 f8, zV4 r1_6 v9_0 v9_1 r9_2 r9_3 r9_4 r9_5 r9_6 r9_7 r9_8 r9_9, zVi r9_8 k10 28 f10, zVi r2_3 k11 14 f11, zVi r1_4 k12 4 f12, zV7 r0_0 r13_0 v13_1 v13_2, zVi r1_2 k14 4 f14, zVi r9_3 k15 14 f15, zVl r13_0 k16 14 f16, zVi r9_9 k17 28 f17, zV6 r1_8 r18_0 r18_1 r18_2, zVl r18_0 k19 14 f19, zVl r18_1 k20 14 f20, zVi r1_3 k21 4 f21, zVi r9_5 k22 14 f22] H := hP
  have hD := zDW hD hP rfl
  refine lv_iload hx hb dX3_halveWith_12 (lv_at hl 0 rfl) ?_
  obtain ⟨j_5, ej_5, hfn⟩ := zj_g hfn
  have jp_5 : ∀ (s_5 : Int32 × (Nat → Int32) × (Nat → Int32)) (H : Heap) (locs : List Loc) (ls : Array Slot), j_5 s_5 = some o → va_P (dC, dI) vwCl [zV3 h0 r0_0 r0_1 v0_2 v0_3 r0_4 r0_5 r0_6 r0_7 s_5.1 r0_9 v0_10 v0_11 v0_12 v0_13 v0_14 v0_15, zV9 h1 v1_0 r1_1 r1_2 r1_3 r1_4 v1_5 r1_6 r1_7 r1_8, zV2 r1_7 v2_0 v2_1 v2_2 r2_3 r2_4 r2_5, zVi r2_4 k3 14 f3, zVi r0_4 k4 14 f4, zVi r0_5 k5 14 o_1.2, zVi r0_6 k6 28 s_5.2.1, zVi r0_7 k7 28 s_5.2.2, zVi r0_9 k8 14 f8, zV4 r1_6 v9_0 v9_1 r9_2 r9_3 r9_4 r9_5 r9_6 r9_7 r9_8 r9_9, zVi r9_8 k10 28 f10, zVi r2_3 k11 14 f11, zVi r1_4 k12 4 f12, zV7 r0_0 r13_0 v13_1 v13_2, zVi r1_2 k14 4 f14, zVi r9_3 k15 14 f15, zVl r13_0 k16 14 f16, zVi r9_9 k17 28 f17, zV6 r1_8 r18_0 r18_1 r18_2, zVl r18_0 k19 14 f19, zVl r18_1 k20 14 f20, zVi r1_3 k21 4 f21, zVi r9_5 k22 14 f22] H → va_D A [zV3 h0 r0_0 r0_1 v0_2 v0_3 r0_4 r0_5 r0_6 r0_7 s_5.1 r0_9 v0_10 v0_11 v0_12 v0_13 v0_14 v0_15, zV9 h1 v1_0 r1_1 r1_2 r1_3 r1_4 v1_5 r1_6 r1_7 r1_8, zV2 r1_7 v2_0 v2_1 v2_2 r2_3 r2_4 r2_5, zVi r2_4 k3 14 f3, zVi r0_4 k4 14 f4, zVi r0_5 k5 14 o_1.2, zVi r0_6 k6 28 s_5.2.1, zVi r0_7 k7 28 s_5.2.2, zVi r0_9 k8 14 f8, zV4 r1_6 v9_0 v9_1 r9_2 r9_3 r9_4 r9_5 r9_6 r9_7 r9_8 r9_9, zVi r9_8 k10 28 f10, zVi r2_3 k11 14 f11, zVi r1_4 k12 4 f12, zV7 r0_0 r13_0 v13_1 v13_2, zVi r1_2 k14 4 f14, zVi r9_3 k15 14 f15, zVl r13_0 k16 14 f16, zVi r9_9 k17 28 f17, zV6 r1_8 r18_0 r18_1 r18_2, zVl r18_0 k19 14 f19, zVl r18_1 k20 14 f20, zVi r1_3 k21 4 f21, zVi r9_5 k22 14 f22] → va_S A s.heap H locs → lv_has ls 9 [(0, .ref h0), (1, .ref h1), (2, .int p2), (3, .int p3)] → W p l e (headSpec wsX3_halveWith ({ frames := 5, cells := 0, slots := 0, locals := 152 })).room s m ([.ref h0, .ref h1, .int p2, .int p3] : List Value).toArray below meth c H locs 0 0 Q (F0 m 24 ls []) := by
    intro s_5 H locs ls hfn hP hD hS hl
    have hfn := zj_s ej_5 hfn
    refine lv_iconst (v := 0) hx hb dX3_halveWith_24 zci_0 ?_
    refine lv_istore (lv' := [(5, .int 0), (0, .ref h0), (1, .ref h1), (2, .int p2), (3, .int p3)]) hx hb dX3_halveWith_25 hl (of_decide_eq_true rfl) rfl (fun ls hl => ?_)
    obtain ⟨bd_6, ebd_6, hfn⟩ := zl_g hfn
    have lp_6 : ∀ (n : Nat) (s_6 : Int32 × Int32 × Int32 × Int32 × Int32 × Int32 × (Nat → Int32) × (Nat → Int32) × (Nat → Int32) × (Nat → Int32) × (Nat → Int64)) (H : Heap) (locs : List Loc) (ls : Array Slot), zl bd_6 n s_6 = some o → va_P (dC, dI) vwCl [zV3 h0 r0_0 r0_1 v0_2 v0_3 r0_4 r0_5 r0_6 r0_7 s_6.2.2.2.1 r0_9 s_6.2.1 s_6.2.2.1 v0_12 v0_13 v0_14 v0_15, zV9 h1 v1_0 r1_1 r1_2 r1_3 r1_4 v1_5 r1_6 r1_7 r1_8, zV2 r1_7 v2_0 v2_1 v2_2 r2_3 r2_4 r2_5, zVi r2_4 k3 14 f3, zVi r0_4 k4 14 s_6.2.2.2.2.2.2.1, zVi r0_5 k5 14 o_1.2, zVi r0_6 k6 28 s_6.2.2.2.2.2.2.2.1, zVi r0_7 k7 28 s_6.2.2.2.2.2.2.2.2.1, zVi r0_9 k8 14 s_6.2.2.2.2.2.2.2.2.2.1, zV4 r1_6 v9_0 v9_1 r9_2 r9_3 r9_4 r9_5 r9_6 r9_7 r9_8 r9_9, zVi r9_8 k10 28 f10, zVi r2_3 k11 14 f11, zVi r1_4 k12 4 f12, zV7 r0_0 r13_0 s_6.2.2.2.2.1 s_6.2.2.2.2.2.1, zVi r1_2 k14 4 f14, zVi r9_3 k15 14 f15, zVl r13_0 k16 14 s_6.2.2.2.2.2.2.2.2.2.2, zVi r9_9 k17 28 f17, zV6 r1_8 r18_0 r18_1 r18_2, zVl r18_0 k19 14 f19, zVl r18_1 k20 14 f20, zVi r1_3 k21 4 f21, zVi r9_5 k22 14 f22] H → va_D A [zV3 h0 r0_0 r0_1 v0_2 v0_3 r0_4 r0_5 r0_6 r0_7 s_6.2.2.2.1 r0_9 s_6.2.1 s_6.2.2.1 v0_12 v0_13 v0_14 v0_15, zV9 h1 v1_0 r1_1 r1_2 r1_3 r1_4 v1_5 r1_6 r1_7 r1_8, zV2 r1_7 v2_0 v2_1 v2_2 r2_3 r2_4 r2_5, zVi r2_4 k3 14 f3, zVi r0_4 k4 14 s_6.2.2.2.2.2.2.1, zVi r0_5 k5 14 o_1.2, zVi r0_6 k6 28 s_6.2.2.2.2.2.2.2.1, zVi r0_7 k7 28 s_6.2.2.2.2.2.2.2.2.1, zVi r0_9 k8 14 s_6.2.2.2.2.2.2.2.2.2.1, zV4 r1_6 v9_0 v9_1 r9_2 r9_3 r9_4 r9_5 r9_6 r9_7 r9_8 r9_9, zVi r9_8 k10 28 f10, zVi r2_3 k11 14 f11, zVi r1_4 k12 4 f12, zV7 r0_0 r13_0 s_6.2.2.2.2.1 s_6.2.2.2.2.2.1, zVi r1_2 k14 4 f14, zVi r9_3 k15 14 f15, zVl r13_0 k16 14 s_6.2.2.2.2.2.2.2.2.2.2, zVi r9_9 k17 28 f17, zV6 r1_8 r18_0 r18_1 r18_2, zVl r18_0 k19 14 f19, zVl r18_1 k20 14 f20, zVi r1_3 k21 4 f21, zVi r9_5 k22 14 f22] → va_S A s.heap H locs → lv_has ls 9 [(5, .int s_6.1), (0, .ref h0), (1, .ref h1), (2, .int p2), (3, .int p3)] → W p l e (headSpec wsX3_halveWith ({ frames := 5, cells := 0, slots := 0, locals := 152 })).room s m ([.ref h0, .ref h1, .int p2, .int p3] : List Value).toArray below meth c H locs 0 0 Q (F0 m 27 ls []) := by
      intro n
      induction n with
      | zero => exact fun _ _ _ _ hfn => (zl_0 hfn).elim
      | succ n ih_6 =>
        intro s_6 H locs ls hfn hP hD hS hl
        have hfn := zl_s ebd_6 hfn
        refine lv_iload hx hb dX3_halveWith_27 (lv_at hl 0 rfl) ?_
        refine lv_aload_n hx hb dX3_halveWith_29 rfl (lv_at hl 1 rfl) ?_
        refine va_get (D := (dC, dI)) (ci := 3) (v := .int s_6.2.2.2.1) (C := RX3) (T := TX3) (N := 16) hx hb hts zn_X3_halveWith_X3 hown hK hP 0 rfl rfl 8 (of_decide_eq_true rfl) (hts (.fieldLink RX3 101 "ShortEnough$LocalSearch" "parts" "I") zw_X3_halveWith_303) (fun _ h9 => h9) rfl dX3_halveWith_30 ?_
        refine lv_icmp_ge (tgt := 128) hx hb dX3_halveWith_33 (of_decide_eq_true rfl) (fun c_7 => ?_) (fun c_7 => ?_)
        · have hfn := (if_pos c_7).symm.trans hfn
          have ho := Option.some.inj hfn
          subst ho
          exact zrv hx hb hr hK hP hD hS hQ trivial hlocks dX3_halveWith_128
        have hfn := (if_neg c_7).symm.trans hfn
        refine lv_iload hx hb dX3_halveWith_36 (lv_at hl 0 rfl) ?_
        refine lv_bipush (v := 28) hx hb dX3_halveWith_38 zcb_28 ?_
        refine lv_icmp_ge (tgt := 128) hx hb dX3_halveWith_40 (of_decide_eq_true rfl) (fun c_8 => ?_) (fun c_8 => ?_)
        · have hfn := (if_pos c_8).symm.trans hfn
          have ho := Option.some.inj hfn
          subst ho
          exact zrv hx hb hr hK hP hD hS hQ trivial hlocks dX3_halveWith_128
        have hfn := (if_neg c_8).symm.trans hfn
        refine lv_aload_n hx hb dX3_halveWith_43 rfl (lv_at hl 1 rfl) ?_
        refine va_get (D := (dC, dI)) (ci := 3) (v := .ref r0_6) (C := RX3) (T := TX3) (N := 16) hx hb hts zn_X3_halveWith_X3 hown hK hP 0 rfl rfl 6 (of_decide_eq_true rfl) (hts (.fieldLink RX3 29 "ShortEnough$LocalSearch" "partFrom" "[I") zw_X3_halveWith_308) (fun _ h9 => h9) rfl dX3_halveWith_44 ?_
        refine lv_iload hx hb dX3_halveWith_47 (lv_at hl 0 rfl) ?_
        obtain ⟨h_9, hfn⟩ := zg_s hfn
        refine va_iald hx hb hK hP 6 3 rfl rfl h_9 dX3_halveWith_49 ?_
        refine lv_istore (lv' := [(6, .int (s_6.2.2.2.2.2.2.2.1 s_6.1.toNatClampNeg)), (5, .int s_6.1), (0, .ref h0), (1, .ref h1), (2, .int p2), (3, .int p3)]) hx hb dX3_halveWith_50 hl (of_decide_eq_true rfl) rfl (fun ls hl => ?_)
        refine lv_aload_n hx hb dX3_halveWith_52 rfl (lv_at hl 2 rfl) ?_
        refine va_get (D := (dC, dI)) (ci := 3) (v := .ref r0_7) (C := RX3) (T := TX3) (N := 16) hx hb hts zn_X3_halveWith_X3 hown hK hP 0 rfl rfl 7 (of_decide_eq_true rfl) (hts (.fieldLink RX3 32 "ShortEnough$LocalSearch" "partTo" "[I") zw_X3_halveWith_309) (fun _ h9 => h9) rfl dX3_halveWith_53 ?_
        refine lv_iload hx hb dX3_halveWith_56 (lv_at hl 1 rfl) ?_
        refine va_iald hx hb hK hP 7 4 rfl rfl h_9 dX3_halveWith_58 ?_
        refine lv_istore (lv' := [(7, .int (s_6.2.2.2.2.2.2.2.2.1 s_6.1.toNatClampNeg)), (6, .int (s_6.2.2.2.2.2.2.2.1 s_6.1.toNatClampNeg)), (5, .int s_6.1), (0, .ref h0), (1, .ref h1), (2, .int p2), (3, .int p3)]) hx hb dX3_halveWith_59 hl (of_decide_eq_true rfl) rfl (fun ls hl => ?_)
        refine lv_aload_n hx hb dX3_halveWith_61 rfl (lv_at hl 3 rfl) ?_
        refine lv_dup hx hb dX3_halveWith_62 rfl ?_
        refine va_get (D := (dC, dI)) (ci := 3) (v := .int s_6.2.2.1) (C := RX3) (T := TX3) (N := 16) hx hb hts zn_X3_halveWith_X3 hown hK hP 0 rfl rfl 11 (of_decide_eq_true rfl) (hts (.fieldLink RX3 72 "ShortEnough$LocalSearch" "tries" "I") zw_X3_halveWith_310) (fun _ h9 => h9) rfl dX3_halveWith_63 ?_
        refine lv_iconst (v := 1) hx hb dX3_halveWith_66 zci_1 ?_
        refine lv_iadd hx hb dX3_halveWith_67 ?_
        refine va_put (D := (dC, dI)) (ci := 3) (v := .int (s_6.2.2.1 + 1)) (ty := .int) (C := RX3) (T := TX3) (N := 16) hx hb hts zn_X3_halveWith_X3 tyX3 tyX3_ok nmX3 hown hK hP hD hS 0 rfl rfl 11 (of_decide_eq_true rfl) (hts (.fieldLink RX3 72 "ShortEnough$LocalSearch" "tries" "I") zw_X3_halveWith_310) (fun _ h9 => h9) rfl (tyX3_ok 11 (of_decide_eq_true rfl)) rfl rfl (Nat.le_of_ble_eq_true rfl) dX3_halveWith_68 (fun H locs hP hD hS => ?_)
        have hP : va_P (dC, dI) vwCl [zV3 h0 r0_0 r0_1 v0_2 v0_3 r0_4 r0_5 r0_6 r0_7 s_6.2.2.2.1 r0_9 s_6.2.1 (s_6.2.2.1 + 1) v0_12 v0_13 v0_14 v0_15, zV9 h1 v1_0 r1_1 r1_2 r1_3 r1_4 v1_5 r1_6 r1_7 r1_8, zV2 r1_7 v2_0 v2_1 v2_2 r2_3 r2_4 r2_5, zVi r2_4 k3 14 f3, zVi r0_4 k4 14 s_6.2.2.2.2.2.2.1, zVi r0_5 k5 14 o_1.2, zVi r0_6 k6 28 s_6.2.2.2.2.2.2.2.1, zVi r0_7 k7 28 s_6.2.2.2.2.2.2.2.2.1, zVi r0_9 k8 14 s_6.2.2.2.2.2.2.2.2.2.1, zV4 r1_6 v9_0 v9_1 r9_2 r9_3 r9_4 r9_5 r9_6 r9_7 r9_8 r9_9, zVi r9_8 k10 28 f10, zVi r2_3 k11 14 f11, zVi r1_4 k12 4 f12, zV7 r0_0 r13_0 s_6.2.2.2.2.1 s_6.2.2.2.2.2.1, zVi r1_2 k14 4 f14, zVi r9_3 k15 14 f15, zVl r13_0 k16 14 s_6.2.2.2.2.2.2.2.2.2.2, zVi r9_9 k17 28 f17, zV6 r1_8 r18_0 r18_1 r18_2, zVl r18_0 k19 14 f19, zVl r18_1 k20 14 f20, zVi r1_3 k21 4 f21, zVi r9_5 k22 14 f22] H := hP
        have hD := zDW hD hP rfl
        refine lv_aload_n hx hb dX3_halveWith_71 rfl (lv_at hl 3 rfl) ?_
        refine lv_aload_n hx hb dX3_halveWith_72 rfl (lv_at hl 4 rfl) ?_
        refine lv_iload hx hb dX3_halveWith_73 (lv_at hl 1 rfl) ?_
        refine lv_iload hx hb dX3_halveWith_75 (lv_at hl 0 rfl) ?_
        refine lv_iload_n hx hb dX3_halveWith_77 rfl (lv_at hl 5 rfl) ?_
        refine lv_iload_n hx hb dX3_halveWith_78 rfl (lv_at hl 6 rfl) ?_
        obtain ⟨o_10, hqo_10, hfn⟩ := zb_s hfn
        refine zcNVb (ci := 3) (rest := []) (pc' := 82) (ws' := [zV3 h0 r0_0 r0_1 v0_2 v0_3 r0_4 r0_5 r0_6 r0_7 s_6.2.2.2.1 r0_9 o_10.2.1 (s_6.2.2.1 + 1) v0_12 v0_13 v0_14 v0_15, zV9 h1 v1_0 r1_1 r1_2 r1_3 r1_4 v1_5 r1_6 r1_7 r1_8, zV2 r1_7 v2_0 v2_1 v2_2 r2_3 r2_4 r2_5, zVi r2_4 k3 14 f3, zVi r0_4 k4 14 o_10.2.2.2.2.2.2, zVi r0_5 k5 14 o_1.2, zVi r0_6 k6 28 s_6.2.2.2.2.2.2.2.1, zVi r0_7 k7 28 s_6.2.2.2.2.2.2.2.2.1, zVi r0_9 k8 14 o_10.2.2.1, zV4 r1_6 v9_0 v9_1 r9_2 r9_3 r9_4 r9_5 r9_6 r9_7 r9_8 r9_9, zVi r9_8 k10 28 f10, zVi r2_3 k11 14 f11, zVi r1_4 k12 4 f12, zV7 r0_0 r13_0 o_10.2.2.2.1 o_10.2.2.2.2.1, zVi r1_2 k14 4 f14, zVi r9_3 k15 14 f15, zVl r13_0 k16 14 o_10.2.2.2.2.2.1, zVi r9_9 k17 28 f17, zV6 r1_8 r18_0 r18_1 r18_2, zVl r18_0 k19 14 f19, zVl r18_1 k20 14 f20, zVi r1_3 k21 4 f21, zVi r9_5 k22 14 f22]) hP hK hD hS hA ⟨hx, hb, hml, hown, hts⟩ (zf_X3_changePart l dC dI h0 h1 (s_6.2.2.2.2.2.2.2.1 s_6.1.toNatClampNeg) (s_6.2.2.2.2.2.2.2.2.1 s_6.1.toNatClampNeg) p2 p3 r0_0 r0_1 v0_2 v0_3 r0_4 r0_5 r0_6 r0_7 s_6.2.2.2.1 r0_9 s_6.2.1 (s_6.2.2.1 + 1) v0_12 v0_13 v0_14 v0_15 k5 o_1.2 k8 s_6.2.2.2.2.2.2.2.2.2.1 v1_0 r1_1 r1_2 r1_3 r1_4 v1_5 r1_6 r1_7 r1_8 v9_0 v9_1 r9_2 r9_3 r9_4 r9_5 r9_6 r9_7 r9_8 r9_9 k10 f10 v2_0 v2_1 v2_2 r2_3 r2_4 r2_5 k11 f11 k12 f12 r13_0 s_6.2.2.2.2.1 s_6.2.2.2.2.2.1 k14 f14 k15 f15 k16 s_6.2.2.2.2.2.2.2.2.2.2 k17 f17 r18_0 r18_1 r18_2 k19 f19 k20 f20 k21 f21 k22 f22 k4 s_6.2.2.2.2.2.2.1 o_10 hqo_10 H.size) ⟨hn0, trivial⟩ (cwV 5 hts gX3_halveWith_X3_changePart rfl rfl rfl zhd_X3_changePart ⟨Nat.le_of_ble_eq_true rfl, Nat.le_of_ble_eq_true rfl⟩) [0, 5, 8, 1, 9, 10, 2, 11, 12, 13, 14, 15, 16, 17, 18, 19, 20, 21, 22, 4] rfl (of_decide_eq_true rfl) [2, 5, 6, 7, 8, 9, 10, 11, 12, 13, 14, 15, 16, 1] rfl rfl rfl rfl hl.1 rfl (Nat.le_of_ble_eq_true rfl) dX3_halveWith_79 ⟨Nat.le_of_ble_eq_true rfl, Nat.le_of_ble_eq_true rfl⟩ [some 0, some 3, some 6, none, some 19, some 1, none, none, some 2, some 4, some 5, some 7, some 8, some 9, some 10, some 11, some 12, some 13, some 14, some 15, some 16, some 17, some 18] (of_decide_eq_true rfl) (of_decide_eq_true rfl) rfl rfl rfl (fun H locs hw_13n hP hD hS => ?_)
        refine lv_if_ne (tgt := 122) hx hb dX3_halveWith_82 (of_decide_eq_true rfl) (fun c_14 => ?_) (fun c_14 => ?_)
        · have hfn := (if_neg c_14).symm.trans hfn
          refine lv_iinc (v := (s_6.1 + 1)) (lv' := [(5, .int (s_6.1 + 1)), (7, .int (s_6.2.2.2.2.2.2.2.2.1 s_6.1.toNatClampNeg)), (6, .int (s_6.2.2.2.2.2.2.2.1 s_6.1.toNatClampNeg)), (0, .ref h0), (1, .ref h1), (2, .int p2), (3, .int p3)]) hx hb dX3_halveWith_122 hl (k := 2) rfl rfl (of_decide_eq_true rfl) rfl (fun ls hl => ?_)
          refine lv_goto (tgt := 27) hx hb dX3_halveWith_125 (of_decide_eq_true rfl) ?_
          exact ih_6 ((s_6.1 + 1), o_10.2.1, (s_6.2.2.1 + 1), s_6.2.2.2.1, o_10.2.2.2.1, o_10.2.2.2.2.1, o_10.2.2.2.2.2.2, s_6.2.2.2.2.2.2.2.1, s_6.2.2.2.2.2.2.2.2.1, o_10.2.2.1, o_10.2.2.2.2.2.1) H locs ls hfn hP hD hS (lv_sub hl [0, 3, 4, 5, 6] rfl)
        have hfn := (if_pos c_14).symm.trans hfn
        refine lv_iload hx hb dX3_halveWith_85 (lv_at hl 0 rfl) ?_
        refine lv_iload hx hb dX3_halveWith_87 (lv_at hl 1 rfl) ?_
        refine lv_isub hx hb dX3_halveWith_89 ?_
        refine lv_topi (fun x_15 ex_15 => ?_)
        have hfn := zn_s hfn ex_15
        refine lv_iconst (v := 2) hx hb dX3_halveWith_90 zci_2 ?_
        refine lv_icmp_lt (tgt := 122) hx hb dX3_halveWith_91 (of_decide_eq_true rfl) (fun c_16 => ?_) (fun c_16 => ?_)
        · have hfn := (if_pos c_16).symm.trans hfn
          refine lv_iinc (v := (s_6.1 + 1)) (lv' := [(5, .int (s_6.1 + 1)), (7, .int (s_6.2.2.2.2.2.2.2.2.1 s_6.1.toNatClampNeg)), (6, .int (s_6.2.2.2.2.2.2.2.1 s_6.1.toNatClampNeg)), (0, .ref h0), (1, .ref h1), (2, .int p2), (3, .int p3)]) hx hb dX3_halveWith_122 hl (k := 2) rfl rfl (of_decide_eq_true rfl) rfl (fun ls hl => ?_)
          refine lv_goto (tgt := 27) hx hb dX3_halveWith_125 (of_decide_eq_true rfl) ?_
          exact ih_6 ((s_6.1 + 1), o_10.2.1, (s_6.2.2.1 + 1), s_6.2.2.2.1, o_10.2.2.2.1, o_10.2.2.2.2.1, o_10.2.2.2.2.2.2, s_6.2.2.2.2.2.2.2.1, s_6.2.2.2.2.2.2.2.2.1, o_10.2.2.1, o_10.2.2.2.2.2.1) H locs ls hfn hP hD hS (lv_sub hl [0, 3, 4, 5, 6] rfl)
        have hfn := (if_neg c_16).symm.trans hfn
        refine lv_iload hx hb dX3_halveWith_94 (lv_at hl 1 rfl) ?_
        refine lv_iload hx hb dX3_halveWith_96 (lv_at hl 0 rfl) ?_
        refine lv_iload hx hb dX3_halveWith_98 (lv_at hl 1 rfl) ?_
        refine lv_isub hx hb dX3_halveWith_100 ?_
        refine lv_topi (fun x_17 ex_17 => ?_)
        have hfn := zn_s hfn ex_17
        refine lv_iconst (v := 2) hx hb dX3_halveWith_101 zci_2 ?_
        refine lv_idiv hx hb dX3_halveWith_102 (by decide +kernel) ?_
        refine lv_iadd hx hb dX3_halveWith_103 ?_
        refine lv_istore (lv' := [(8, .int ((s_6.2.2.2.2.2.2.2.1 s_6.1.toNatClampNeg) + (x_17 / 2))), (7, .int (s_6.2.2.2.2.2.2.2.2.1 s_6.1.toNatClampNeg)), (6, .int (s_6.2.2.2.2.2.2.2.1 s_6.1.toNatClampNeg)), (5, .int s_6.1), (0, .ref h0), (1, .ref h1), (2, .int p2), (3, .int p3)]) hx hb dX3_halveWith_104 hl (of_decide_eq_true rfl) rfl (fun ls hl => ?_)
        refine lv_aload_n hx hb dX3_halveWith_106 rfl (lv_at hl 4 rfl) ?_
        refine lv_iload hx hb dX3_halveWith_107 (lv_at hl 2 rfl) ?_
        refine lv_iload hx hb dX3_halveWith_109 (lv_at hl 0 rfl) ?_
        obtain ⟨o_18, hqo_18, hfn⟩ := zb_s hfn
        refine zcVv (ci := 3) (rest := []) (pc' := 114) (ws' := [zV3 h0 r0_0 r0_1 v0_2 v0_3 r0_4 r0_5 r0_6 r0_7 o_18.1 r0_9 o_10.2.1 (s_6.2.2.1 + 1) v0_12 v0_13 v0_14 v0_15, zV9 h1 v1_0 r1_1 r1_2 r1_3 r1_4 v1_5 r1_6 r1_7 r1_8, zV2 r1_7 v2_0 v2_1 v2_2 r2_3 r2_4 r2_5, zVi r2_4 k3 14 f3, zVi r0_4 k4 14 o_10.2.2.2.2.2.2, zVi r0_5 k5 14 o_1.2, zVi r0_6 k6 28 o_18.2.1, zVi r0_7 k7 28 o_18.2.2, zVi r0_9 k8 14 o_10.2.2.1, zV4 r1_6 v9_0 v9_1 r9_2 r9_3 r9_4 r9_5 r9_6 r9_7 r9_8 r9_9, zVi r9_8 k10 28 f10, zVi r2_3 k11 14 f11, zVi r1_4 k12 4 f12, zV7 r0_0 r13_0 o_10.2.2.2.1 o_10.2.2.2.2.1, zVi r1_2 k14 4 f14, zVi r9_3 k15 14 f15, zVl r13_0 k16 14 o_10.2.2.2.2.2.1, zVi r9_9 k17 28 f17, zV6 r1_8 r18_0 r18_1 r18_2, zVl r18_0 k19 14 f19, zVl r18_1 k20 14 f20, zVi r1_3 k21 4 f21, zVi r9_5 k22 14 f22]) hP hK hD hS hA ⟨hx, hb, hml, hown, hts⟩ (zf_X3_addPart l dC dI h0 (s_6.2.2.2.2.2.2.2.1 s_6.1.toNatClampNeg) ((s_6.2.2.2.2.2.2.2.1 s_6.1.toNatClampNeg) + (x_17 / 2)) r0_0 r0_1 v0_2 v0_3 r0_4 r0_5 r0_6 r0_7 s_6.2.2.2.1 r0_9 o_10.2.1 (s_6.2.2.1 + 1) v0_12 v0_13 v0_14 v0_15 k6 s_6.2.2.2.2.2.2.2.1 k7 s_6.2.2.2.2.2.2.2.2.1 o_18 hqo_18 H.size) (cwV 2 hts gX3_halveWith_X3_addPart rfl rfl rfl zhd_X3_addPart ⟨Nat.le_of_ble_eq_true rfl, Nat.le_of_ble_eq_true rfl⟩) [0, 6, 7] rfl (of_decide_eq_true rfl) [3, 4] rfl rfl rfl rfl hl.1 rfl (Nat.le_of_ble_eq_true rfl) dX3_halveWith_111 ⟨Nat.le_of_ble_eq_true rfl, Nat.le_of_ble_eq_true rfl⟩ [some 0, none, none, none, none, none, some 1, some 2] (of_decide_eq_true rfl) (of_decide_eq_true rfl) rfl rfl rfl (fun H locs hP hD hS => ?_)
        refine lv_aload_n hx hb dX3_halveWith_114 rfl (lv_at hl 4 rfl) ?_
        refine lv_iload hx hb dX3_halveWith_115 (lv_at hl 0 rfl) ?_
        refine lv_iload hx hb dX3_halveWith_117 (lv_at hl 1 rfl) ?_
        obtain ⟨o_22, hqo_22, hfn⟩ := zb_s hfn
        refine zcVv (ci := 3) (rest := []) (pc' := 122) (ws' := [zV3 h0 r0_0 r0_1 v0_2 v0_3 r0_4 r0_5 r0_6 r0_7 o_22.1 r0_9 o_10.2.1 (s_6.2.2.1 + 1) v0_12 v0_13 v0_14 v0_15, zV9 h1 v1_0 r1_1 r1_2 r1_3 r1_4 v1_5 r1_6 r1_7 r1_8, zV2 r1_7 v2_0 v2_1 v2_2 r2_3 r2_4 r2_5, zVi r2_4 k3 14 f3, zVi r0_4 k4 14 o_10.2.2.2.2.2.2, zVi r0_5 k5 14 o_1.2, zVi r0_6 k6 28 o_22.2.1, zVi r0_7 k7 28 o_22.2.2, zVi r0_9 k8 14 o_10.2.2.1, zV4 r1_6 v9_0 v9_1 r9_2 r9_3 r9_4 r9_5 r9_6 r9_7 r9_8 r9_9, zVi r9_8 k10 28 f10, zVi r2_3 k11 14 f11, zVi r1_4 k12 4 f12, zV7 r0_0 r13_0 o_10.2.2.2.1 o_10.2.2.2.2.1, zVi r1_2 k14 4 f14, zVi r9_3 k15 14 f15, zVl r13_0 k16 14 o_10.2.2.2.2.2.1, zVi r9_9 k17 28 f17, zV6 r1_8 r18_0 r18_1 r18_2, zVl r18_0 k19 14 f19, zVl r18_1 k20 14 f20, zVi r1_3 k21 4 f21, zVi r9_5 k22 14 f22]) hP hK hD hS hA ⟨hx, hb, hml, hown, hts⟩ (zf_X3_addPart l dC dI h0 ((s_6.2.2.2.2.2.2.2.1 s_6.1.toNatClampNeg) + (x_17 / 2)) (s_6.2.2.2.2.2.2.2.2.1 s_6.1.toNatClampNeg) r0_0 r0_1 v0_2 v0_3 r0_4 r0_5 r0_6 r0_7 o_18.1 r0_9 o_10.2.1 (s_6.2.2.1 + 1) v0_12 v0_13 v0_14 v0_15 k6 o_18.2.1 k7 o_18.2.2 o_22 hqo_22 H.size) (cwV 2 hts gX3_halveWith_X3_addPart rfl rfl rfl zhd_X3_addPart ⟨Nat.le_of_ble_eq_true rfl, Nat.le_of_ble_eq_true rfl⟩) [0, 6, 7] rfl (of_decide_eq_true rfl) [3, 4] rfl rfl rfl rfl hl.1 rfl (Nat.le_of_ble_eq_true rfl) dX3_halveWith_119 ⟨Nat.le_of_ble_eq_true rfl, Nat.le_of_ble_eq_true rfl⟩ [some 0, none, none, none, none, none, some 1, some 2] (of_decide_eq_true rfl) (of_decide_eq_true rfl) rfl rfl rfl (fun H locs hP hD hS => ?_)
        refine lv_iinc (v := (s_6.1 + 1)) (lv' := [(5, .int (s_6.1 + 1)), (8, .int ((s_6.2.2.2.2.2.2.2.1 s_6.1.toNatClampNeg) + (x_17 / 2))), (7, .int (s_6.2.2.2.2.2.2.2.2.1 s_6.1.toNatClampNeg)), (6, .int (s_6.2.2.2.2.2.2.2.1 s_6.1.toNatClampNeg)), (0, .ref h0), (1, .ref h1), (2, .int p2), (3, .int p3)]) hx hb dX3_halveWith_122 hl (k := 3) rfl rfl (of_decide_eq_true rfl) rfl (fun ls hl => ?_)
        refine lv_goto (tgt := 27) hx hb dX3_halveWith_125 (of_decide_eq_true rfl) ?_
        exact ih_6 ((s_6.1 + 1), o_10.2.1, (s_6.2.2.1 + 1), o_22.1, o_10.2.2.2.1, o_10.2.2.2.2.1, o_10.2.2.2.2.2.2, o_22.2.1, o_22.2.2, o_10.2.2.1, o_10.2.2.2.2.2.1) H locs ls hfn hP hD hS (lv_sub hl [0, 4, 5, 6, 7] rfl)
    exact lp_6 _ (0, v0_10, v0_11, s_5.1, v13_1, v13_2, f4, s_5.2.1, s_5.2.2, f8, f16) H locs ls hfn hP hD hS (lv_sub hl [0, 1, 2, 3, 4] rfl)
  refine lv_if_le (tgt := 24) hx hb dX3_halveWith_14 (of_decide_eq_true rfl) (fun c_26 => ?_) (fun c_26 => ?_)
  · have hfn := (if_pos c_26).symm.trans hfn
    exact jp_5 (0, f6, f7) H locs ls hfn hP hD hS (lv_sub hl [1, 2, 3, 4] rfl)
  have hfn := (if_neg c_26).symm.trans hfn
  refine lv_aload_n hx hb dX3_halveWith_17 rfl (lv_at hl 1 rfl) ?_
  refine lv_iconst (v := 0) hx hb dX3_halveWith_18 zci_0 ?_
  refine lv_iload hx hb dX3_halveWith_19 (lv_at hl 0 rfl) ?_
  obtain ⟨o_27, hqo_27, hfn⟩ := zb_s hfn
  refine zcVv (ci := 3) (rest := []) (pc' := 24) (ws' := [zV3 h0 r0_0 r0_1 v0_2 v0_3 r0_4 r0_5 r0_6 r0_7 o_27.1 r0_9 v0_10 v0_11 v0_12 v0_13 v0_14 v0_15, zV9 h1 v1_0 r1_1 r1_2 r1_3 r1_4 v1_5 r1_6 r1_7 r1_8, zV2 r1_7 v2_0 v2_1 v2_2 r2_3 r2_4 r2_5, zVi r2_4 k3 14 f3, zVi r0_4 k4 14 f4, zVi r0_5 k5 14 o_1.2, zVi r0_6 k6 28 o_27.2.1, zVi r0_7 k7 28 o_27.2.2, zVi r0_9 k8 14 f8, zV4 r1_6 v9_0 v9_1 r9_2 r9_3 r9_4 r9_5 r9_6 r9_7 r9_8 r9_9, zVi r9_8 k10 28 f10, zVi r2_3 k11 14 f11, zVi r1_4 k12 4 f12, zV7 r0_0 r13_0 v13_1 v13_2, zVi r1_2 k14 4 f14, zVi r9_3 k15 14 f15, zVl r13_0 k16 14 f16, zVi r9_9 k17 28 f17, zV6 r1_8 r18_0 r18_1 r18_2, zVl r18_0 k19 14 f19, zVl r18_1 k20 14 f20, zVi r1_3 k21 4 f21, zVi r9_5 k22 14 f22]) hP hK hD hS hA ⟨hx, hb, hml, hown, hts⟩ (zf_X3_addPart l dC dI h0 0 o_1.1 r0_0 r0_1 v0_2 v0_3 r0_4 r0_5 r0_6 r0_7 0 r0_9 v0_10 v0_11 v0_12 v0_13 v0_14 v0_15 k6 f6 k7 f7 o_27 hqo_27 H.size) (cwV 2 hts gX3_halveWith_X3_addPart rfl rfl rfl zhd_X3_addPart ⟨Nat.le_of_ble_eq_true rfl, Nat.le_of_ble_eq_true rfl⟩) [0, 6, 7] rfl (of_decide_eq_true rfl) [3, 4] rfl rfl rfl rfl hl.1 rfl (Nat.le_of_ble_eq_true rfl) dX3_halveWith_21 ⟨Nat.le_of_ble_eq_true rfl, Nat.le_of_ble_eq_true rfl⟩ [some 0, none, none, none, none, none, some 1, some 2] (of_decide_eq_true rfl) (of_decide_eq_true rfl) rfl rfl rfl (fun H locs hP hD hS => ?_)
  exact jp_5 (o_27.1, o_27.2.1, o_27.2.2) H locs ls hfn hP hD hS (lv_sub hl [1, 2, 3, 4] rfl)
