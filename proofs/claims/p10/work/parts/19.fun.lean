theorem zn_X12_laysRange_X12 : ∀ w ∈ wsX120, w ∈ wsX12_laysRange := fun _ h => List.mem_cons_of_mem _ (List.mem_append_right _ h)
theorem zw_X12_laysRange_1101 : Cond.fieldLink RX12 68 "ShortEnoughModel" "op" "[I" ∈ wsX12_laysRange := List.mem_of_getElem? (i := 1) (by decide +kernel)
theorem zw_X12_laysRange_1102 : Cond.fieldLink RX12 106 "ShortEnoughModel" "least" "[J" ∈ wsX12_laysRange := List.mem_of_getElem? (i := 4) (by decide +kernel)
theorem zw_X12_laysRange_1103 : Cond.fieldLink RX12 109 "ShortEnoughModel" "greatest" "[J" ∈ wsX12_laysRange := List.mem_of_getElem? (i := 6) (by decide +kernel)
theorem zw_X12_laysRange_1104 : Cond.fieldLink RX12 112 "ShortEnoughModel" "wideNumber" "I" ∈ wsX12_laysRange := List.mem_of_getElem? (i := 2) (by decide +kernel)
theorem zw_X12_laysRange_1105 : Cond.fieldLink RX12 115 "ShortEnoughModel" "wideBy" "J" ∈ wsX12_laysRange := List.mem_of_getElem? (i := 3) (by decide +kernel)
theorem zw_X12_laysRange_1106 : Cond.fieldLink RX12 77 "ShortEnoughModel" "firstV" "[J" ∈ wsX12_laysRange := List.mem_of_getElem? (i := 5) (by decide +kernel)
theorem zw_X12_laysRange_1107 : Cond.fieldLink RX12 81 "ShortEnoughModel" "secondV" "[J" ∈ wsX12_laysRange := List.mem_of_getElem? (i := 7) (by decide +kernel)
set_option maxHeartbeats 4000000 in
set_option maxRecDepth 100000 in
theorem zf_X12_laysRange (l : Launch) (dC : Nat → ClassId) (dI : Nat → Nat → Nat) (h0 : Nat) (p1 : Int32) (a0 : Nat → Nat) (b0 : Nat → Int32) (c0 : Nat → Int64) (k1 : Nat) (f1 : Nat → Int32) (k2 : Nat) (f2 : Nat → Int32) (k3 : Nat) (f3 : Nat → Int32) (k4 : Nat) (f4 : Nat → Int64) (k5 : Nat) (f5 : Nat → Int64) (k6 : Nat) (f6 : Nat → Int64) (k7 : Nat) (f7 : Nat → Int64) (o : (Nat → Int64) × (Nat → Int64)) (hfn : fn_X12_laysRange p1 (b0 33) (c0 34) f1 f2 f3 f4 f5 f6 f7 = some o) (sz : Nat) : zMv l yX12_laysRange wsX12_laysRange ({ frames := 3, cells := 0, slots := 0, locals := 76 }) (dC, dI) vwCl [.ref h0, .int p1] [(h0, .inr (12, zO a0 b0 c0)), zVi (a0 19) k1 28 f1, zVi (a0 20) k2 28 f2, zVi (a0 21) k3 28 f3, zVl (a0 31) k4 14 f4, zVl (a0 22) k5 28 f5, zVl (a0 23) k6 28 f6, zVl (a0 32) k7 14 f7] [(k1, .int), (k2, .int), (k3, .int), (k4, .long), (k5, .long), (k6, .long), (k7, .long)] (fun _ => True) [(h0, .inr (12, zO a0 b0 c0)), zVi (a0 19) k1 28 f1, zVi (a0 20) k2 28 f2, zVi (a0 21) k3 28 f3, zVl (a0 31) k4 14 o.1, zVl (a0 22) k5 28 f5, zVl (a0 23) k6 28 f6, zVl (a0 32) k7 14 o.2] [(k1, .int), (k2, .int), (k3, .int), (k4, .long), (k5, .long), (k6, .long), (k7, .long)] sz := by
  refine zgov (cc := cX12_laysRange) (maxL := 18) (ret := none) (C0 := RX12) (lv0 := [(0, .ref h0), (1, .int p1)]) zpl_X12 rfl rfl rfl (Nat.le_of_ble_eq_true rfl) ?_
  intro p e s m below meth c A ls Q hx hb hr hts hown hlocks hml hP hK hD hA hS hl hQ
  unfold fn_X12_laysRange at hfn
  refine lv_aload_n hx hb dX12_laysRange_0 rfl (lv_at hl 0 rfl) ?_
  refine va_get (D := (dC, dI)) (ci := 12) (v := .ref (a0 19)) (C := RX12) (T := TX12) (N := 67) hx hb hts zn_X12_laysRange_X12 hown hK hP 0 rfl rfl 19 (of_decide_eq_true rfl) (hts (.fieldLink RX12 68 "ShortEnoughModel" "op" "[I") zw_X12_laysRange_1101) (fun _ h9 => h9) rfl dX12_laysRange_1 ?_
  refine lv_iload_n hx hb dX12_laysRange_4 rfl (lv_at hl 1 rfl) ?_
  obtain ⟨h_1, hfn⟩ := zg_s hfn
  refine va_iald hx hb hK hP 1 0 rfl rfl h_1 dX12_laysRange_5 ?_
  refine lv_if_ne (tgt := 55) hx hb dX12_laysRange_6 (of_decide_eq_true rfl) (fun c_2 => ?_) (fun c_2 => ?_)
  · have hfn := (if_neg c_2).symm.trans hfn
    refine lv_aload_n hx hb dX12_laysRange_55 rfl (lv_at hl 0 rfl) ?_
    refine lv_iload_n hx hb dX12_laysRange_56 rfl (lv_at hl 1 rfl) ?_
    refine lv_iconst (v := 0) hx hb dX12_laysRange_57 zci_0 ?_
    obtain ⟨o_3, hqo_3, hfn⟩ := zb_s hfn
    refine zcVl (ci := 12) (rest := []) (pc' := 61) (ws' := [(h0, .inr (12, zO a0 b0 c0)), zVi (a0 19) k1 28 f1, zVi (a0 20) k2 28 f2, zVi (a0 21) k3 28 f3, zVl (a0 31) k4 14 f4, zVl (a0 22) k5 28 f5, zVl (a0 23) k6 28 f6, zVl (a0 32) k7 14 f7]) hP hK hD hS hA ⟨hx, hb, hml, hown, hts⟩ (zf_X12_lowOf l dC dI h0 p1 0 a0 b0 c0 k2 f2 k3 f3 k4 f4 k5 f5 k6 f6 o_3 hqo_3 s.heap.size) (cwV 2 hts gX12_laysRange_X12_lowOf rfl rfl rfl zhd_X12_lowOf ⟨Nat.le_of_ble_eq_true rfl, Nat.le_of_ble_eq_true rfl⟩) [0, 2, 3, 4, 5, 6] rfl (of_decide_eq_true rfl) [1, 2, 3, 4, 5] rfl rfl rfl rfl hl.1 rfl (Nat.le_of_ble_eq_true rfl) dX12_laysRange_58 ⟨Nat.le_of_ble_eq_true rfl, Nat.le_of_ble_eq_true rfl⟩ [some 0, none, some 1, some 2, some 3, some 4, some 5] (of_decide_eq_true rfl) (of_decide_eq_true rfl) rfl rfl rfl (fun H locs hP hD hS => ?_)
    refine lv_lstore_n (lv' := [(2, .long o_3), (0, .ref h0), (1, .int p1)]) hx hb dX12_laysRange_61 rfl hl (of_decide_eq_true rfl) rfl (fun ls hl => ?_)
    refine lv_aload_n hx hb dX12_laysRange_62 rfl (lv_at hl 1 rfl) ?_
    refine lv_iload_n hx hb dX12_laysRange_63 rfl (lv_at hl 2 rfl) ?_
    refine lv_iconst (v := 0) hx hb dX12_laysRange_64 zci_0 ?_
    obtain ⟨o_7, hqo_7, hfn⟩ := zb_s hfn
    refine zcVl (ci := 12) (rest := []) (pc' := 68) (ws' := [(h0, .inr (12, zO a0 b0 c0)), zVi (a0 19) k1 28 f1, zVi (a0 20) k2 28 f2, zVi (a0 21) k3 28 f3, zVl (a0 31) k4 14 f4, zVl (a0 22) k5 28 f5, zVl (a0 23) k6 28 f6, zVl (a0 32) k7 14 f7]) hP hK hD hS hA ⟨hx, hb, hml, hown, hts⟩ (zf_X12_highOf l dC dI h0 p1 0 a0 b0 c0 k2 f2 k3 f3 k7 f7 k5 f5 k6 f6 o_7 hqo_7 H.size) (cwV 2 hts gX12_laysRange_X12_highOf rfl rfl rfl zhd_X12_highOf ⟨Nat.le_of_ble_eq_true rfl, Nat.le_of_ble_eq_true rfl⟩) [0, 2, 3, 7, 5, 6] rfl (of_decide_eq_true rfl) [1, 2, 6, 4, 5] rfl rfl rfl rfl hl.1 rfl (Nat.le_of_ble_eq_true rfl) dX12_laysRange_65 ⟨Nat.le_of_ble_eq_true rfl, Nat.le_of_ble_eq_true rfl⟩ [some 0, none, some 1, some 2, none, some 4, some 5, some 3] (of_decide_eq_true rfl) (of_decide_eq_true rfl) rfl rfl rfl (fun H locs hP hD hS => ?_)
    refine lv_lstore (lv' := [(4, .long o_7), (2, .long o_3), (0, .ref h0), (1, .int p1)]) hx hb dX12_laysRange_68 hl (of_decide_eq_true rfl) rfl (fun ls hl => ?_)
    refine lv_aload_n hx hb dX12_laysRange_70 rfl (lv_at hl 2 rfl) ?_
    refine lv_iload_n hx hb dX12_laysRange_71 rfl (lv_at hl 3 rfl) ?_
    refine lv_iconst (v := 1) hx hb dX12_laysRange_72 zci_1 ?_
    obtain ⟨o_11, hqo_11, hfn⟩ := zb_s hfn
    refine zcVl (ci := 12) (rest := []) (pc' := 76) (ws' := [(h0, .inr (12, zO a0 b0 c0)), zVi (a0 19) k1 28 f1, zVi (a0 20) k2 28 f2, zVi (a0 21) k3 28 f3, zVl (a0 31) k4 14 f4, zVl (a0 22) k5 28 f5, zVl (a0 23) k6 28 f6, zVl (a0 32) k7 14 f7]) hP hK hD hS hA ⟨hx, hb, hml, hown, hts⟩ (zf_X12_lowOf l dC dI h0 p1 1 a0 b0 c0 k2 f2 k3 f3 k4 f4 k5 f5 k6 f6 o_11 hqo_11 H.size) (cwV 2 hts gX12_laysRange_X12_lowOf rfl rfl rfl zhd_X12_lowOf ⟨Nat.le_of_ble_eq_true rfl, Nat.le_of_ble_eq_true rfl⟩) [0, 2, 3, 4, 5, 6] rfl (of_decide_eq_true rfl) [1, 2, 3, 4, 5] rfl rfl rfl rfl hl.1 rfl (Nat.le_of_ble_eq_true rfl) dX12_laysRange_73 ⟨Nat.le_of_ble_eq_true rfl, Nat.le_of_ble_eq_true rfl⟩ [some 0, none, some 1, some 2, some 3, some 4, some 5] (of_decide_eq_true rfl) (of_decide_eq_true rfl) rfl rfl rfl (fun H locs hP hD hS => ?_)
    refine lv_lstore (lv' := [(6, .long o_11), (4, .long o_7), (2, .long o_3), (0, .ref h0), (1, .int p1)]) hx hb dX12_laysRange_76 hl (of_decide_eq_true rfl) rfl (fun ls hl => ?_)
    refine lv_aload_n hx hb dX12_laysRange_78 rfl (lv_at hl 3 rfl) ?_
    refine lv_iload_n hx hb dX12_laysRange_79 rfl (lv_at hl 4 rfl) ?_
    refine lv_iconst (v := 1) hx hb dX12_laysRange_80 zci_1 ?_
    obtain ⟨o_15, hqo_15, hfn⟩ := zb_s hfn
    refine zcVl (ci := 12) (rest := []) (pc' := 84) (ws' := [(h0, .inr (12, zO a0 b0 c0)), zVi (a0 19) k1 28 f1, zVi (a0 20) k2 28 f2, zVi (a0 21) k3 28 f3, zVl (a0 31) k4 14 f4, zVl (a0 22) k5 28 f5, zVl (a0 23) k6 28 f6, zVl (a0 32) k7 14 f7]) hP hK hD hS hA ⟨hx, hb, hml, hown, hts⟩ (zf_X12_highOf l dC dI h0 p1 1 a0 b0 c0 k2 f2 k3 f3 k7 f7 k5 f5 k6 f6 o_15 hqo_15 H.size) (cwV 2 hts gX12_laysRange_X12_highOf rfl rfl rfl zhd_X12_highOf ⟨Nat.le_of_ble_eq_true rfl, Nat.le_of_ble_eq_true rfl⟩) [0, 2, 3, 7, 5, 6] rfl (of_decide_eq_true rfl) [1, 2, 6, 4, 5] rfl rfl rfl rfl hl.1 rfl (Nat.le_of_ble_eq_true rfl) dX12_laysRange_81 ⟨Nat.le_of_ble_eq_true rfl, Nat.le_of_ble_eq_true rfl⟩ [some 0, none, some 1, some 2, none, some 4, some 5, some 3] (of_decide_eq_true rfl) (of_decide_eq_true rfl) rfl rfl rfl (fun H locs hP hD hS => ?_)
    refine lv_lstore (lv' := [(8, .long o_15), (6, .long o_11), (4, .long o_7), (2, .long o_3), (0, .ref h0), (1, .int p1)]) hx hb dX12_laysRange_84 hl (of_decide_eq_true rfl) rfl (fun ls hl => ?_)
    refine lv_aload_n hx hb dX12_laysRange_86 rfl (lv_at hl 4 rfl) ?_
    refine va_get (D := (dC, dI)) (ci := 12) (v := .ref (a0 19)) (C := RX12) (T := TX12) (N := 67) hx hb hts zn_X12_laysRange_X12 hown hK hP 0 rfl rfl 19 (of_decide_eq_true rfl) (hts (.fieldLink RX12 68 "ShortEnoughModel" "op" "[I") zw_X12_laysRange_1101) (fun _ h9 => h9) rfl dX12_laysRange_87 ?_
    refine lv_iload_n hx hb dX12_laysRange_90 rfl (lv_at hl 5 rfl) ?_
    refine va_iald hx hb hK hP 1 0 rfl rfl h_1 dX12_laysRange_91 ?_
    refine lv_iconst (v := 2) hx hb dX12_laysRange_92 zci_2 ?_
    refine lv_icmp_ne (tgt := 120) hx hb dX12_laysRange_93 (of_decide_eq_true rfl) (fun c_19 => ?_) (fun c_19 => ?_)
    · have hfn := (if_neg c_19).symm.trans hfn
      refine lv_aload_n hx hb dX12_laysRange_120 rfl (lv_at hl 4 rfl) ?_
      refine va_get (D := (dC, dI)) (ci := 12) (v := .ref (a0 19)) (C := RX12) (T := TX12) (N := 67) hx hb hts zn_X12_laysRange_X12 hown hK hP 0 rfl rfl 19 (of_decide_eq_true rfl) (hts (.fieldLink RX12 68 "ShortEnoughModel" "op" "[I") zw_X12_laysRange_1101) (fun _ h9 => h9) rfl dX12_laysRange_121 ?_
      refine lv_iload_n hx hb dX12_laysRange_124 rfl (lv_at hl 5 rfl) ?_
      refine va_iald hx hb hK hP 1 0 rfl rfl h_1 dX12_laysRange_125 ?_
      refine lv_iconst (v := 3) hx hb dX12_laysRange_126 zci_3 ?_
      refine lv_icmp_ne (tgt := 221) hx hb dX12_laysRange_127 (of_decide_eq_true rfl) (fun c_20 => ?_) (fun c_20 => ?_)
      · have hfn := (if_neg c_20).symm.trans hfn
        refine lv_aload_n hx hb dX12_laysRange_221 rfl (lv_at hl 4 rfl) ?_
        refine va_get (D := (dC, dI)) (ci := 12) (v := .ref (a0 31)) (C := RX12) (T := TX12) (N := 67) hx hb hts zn_X12_laysRange_X12 hown hK hP 0 rfl rfl 31 (of_decide_eq_true rfl) (hts (.fieldLink RX12 106 "ShortEnoughModel" "least" "[J") zw_X12_laysRange_1102) (fun _ h9 => h9) rfl dX12_laysRange_222 ?_
        refine lv_iload_n hx hb dX12_laysRange_225 rfl (lv_at hl 5 rfl) ?_
        refine lv_aload_n hx hb dX12_laysRange_226 rfl (lv_at hl 4 rfl) ?_
        refine va_get (D := (dC, dI)) (ci := 12) (v := .ref (a0 19)) (C := RX12) (T := TX12) (N := 67) hx hb hts zn_X12_laysRange_X12 hown hK hP 0 rfl rfl 19 (of_decide_eq_true rfl) (hts (.fieldLink RX12 68 "ShortEnoughModel" "op" "[I") zw_X12_laysRange_1101) (fun _ h9 => h9) rfl dX12_laysRange_227 ?_
        refine lv_iload_n hx hb dX12_laysRange_230 rfl (lv_at hl 5 rfl) ?_
        refine va_iald hx hb hK hP 1 0 rfl rfl h_1 dX12_laysRange_231 ?_
        refine lv_lload_n hx hb dX12_laysRange_232 rfl (lv_at hl 3 rfl) ?_
        refine lv_lload hx hb dX12_laysRange_233 (lv_at hl 1 rfl) ?_
        refine lv_lconst (v := 1) hx hb dX12_laysRange_235 (by decide +kernel) ?_
        obtain ⟨o_21, hqo_21, hfn⟩ := zb_s hfn
        refine zcSl (rest := [.int p1, .ref (a0 31)]) (pc' := 239) (ws' := [(h0, .inr (12, zO a0 b0 c0)), zVi (a0 19) k1 28 f1, zVi (a0 20) k2 28 f2, zVi (a0 21) k3 28 f3, zVl (a0 31) k4 14 f4, zVl (a0 22) k5 28 f5, zVl (a0 23) k6 28 f6, zVl (a0 32) k7 14 f7]) hP hK hD hS hA ⟨hx, hb, hml, hown, hts⟩ (zf_X12_two l dC dI (f1 p1.toNatClampNeg) o_3 o_11 (1 : Int64) o_21 hqo_21 H.size) (va_cwS 4 hts gX12_laysRange_X12_two rfl rfl rfl zhd_X12_two.2 ⟨Nat.le_of_ble_eq_true rfl, Nat.le_of_ble_eq_true rfl⟩) [] rfl (of_decide_eq_true rfl) [] rfl rfl hl.1 rfl (Nat.le_of_ble_eq_true rfl) dX12_laysRange_236 ⟨Nat.le_of_ble_eq_true rfl, Nat.le_of_ble_eq_true rfl⟩ [] (of_decide_eq_true rfl) (of_decide_eq_true rfl) rfl rfl rfl (fun H locs hP hD hS => ?_)
        obtain ⟨h_25, hfn⟩ := zg_s hfn
        refine va_last hx hb hK hP hD hS 4 3 rfl rfl h_25 dX12_laysRange_239 (fun H locs hP hD hS => ?_)
        have hP : va_P (dC, dI) vwCl [(h0, .inr (12, zO a0 b0 c0)), zVi (a0 19) k1 28 f1, zVi (a0 20) k2 28 f2, zVi (a0 21) k3 28 f3, zVl (a0 31) k4 14 (vp_updL f4 p1.toNatClampNeg o_21), zVl (a0 22) k5 28 f5, zVl (a0 23) k6 28 f6, zVl (a0 32) k7 14 f7] H := hP
        have hD := zDW hD hP rfl
        refine lv_aload_n hx hb dX12_laysRange_240 rfl (lv_at hl 4 rfl) ?_
        refine va_get (D := (dC, dI)) (ci := 12) (v := .ref (a0 32)) (C := RX12) (T := TX12) (N := 67) hx hb hts zn_X12_laysRange_X12 hown hK hP 0 rfl rfl 32 (of_decide_eq_true rfl) (hts (.fieldLink RX12 109 "ShortEnoughModel" "greatest" "[J") zw_X12_laysRange_1103) (fun _ h9 => h9) rfl dX12_laysRange_241 ?_
        refine lv_iload_n hx hb dX12_laysRange_244 rfl (lv_at hl 5 rfl) ?_
        refine lv_aload_n hx hb dX12_laysRange_245 rfl (lv_at hl 4 rfl) ?_
        refine va_get (D := (dC, dI)) (ci := 12) (v := .ref (a0 19)) (C := RX12) (T := TX12) (N := 67) hx hb hts zn_X12_laysRange_X12 hown hK hP 0 rfl rfl 19 (of_decide_eq_true rfl) (hts (.fieldLink RX12 68 "ShortEnoughModel" "op" "[I") zw_X12_laysRange_1101) (fun _ h9 => h9) rfl dX12_laysRange_246 ?_
        refine lv_iload_n hx hb dX12_laysRange_249 rfl (lv_at hl 5 rfl) ?_
        refine va_iald hx hb hK hP 1 0 rfl rfl h_1 dX12_laysRange_250 ?_
        refine lv_lload hx hb dX12_laysRange_251 (lv_at hl 2 rfl) ?_
        refine lv_lload hx hb dX12_laysRange_253 (lv_at hl 0 rfl) ?_
        refine lv_lconst (v := 1) hx hb dX12_laysRange_255 (by decide +kernel) ?_
        obtain ⟨o_26, hqo_26, hfn⟩ := zb_s hfn
        refine zcSl (rest := [.int p1, .ref (a0 32)]) (pc' := 259) (ws' := [(h0, .inr (12, zO a0 b0 c0)), zVi (a0 19) k1 28 f1, zVi (a0 20) k2 28 f2, zVi (a0 21) k3 28 f3, zVl (a0 31) k4 14 (vp_updL f4 p1.toNatClampNeg o_21), zVl (a0 22) k5 28 f5, zVl (a0 23) k6 28 f6, zVl (a0 32) k7 14 f7]) hP hK hD hS hA ⟨hx, hb, hml, hown, hts⟩ (zf_X12_two l dC dI (f1 p1.toNatClampNeg) o_7 o_15 (1 : Int64) o_26 hqo_26 H.size) (va_cwS 4 hts gX12_laysRange_X12_two rfl rfl rfl zhd_X12_two.2 ⟨Nat.le_of_ble_eq_true rfl, Nat.le_of_ble_eq_true rfl⟩) [] rfl (of_decide_eq_true rfl) [] rfl rfl hl.1 rfl (Nat.le_of_ble_eq_true rfl) dX12_laysRange_256 ⟨Nat.le_of_ble_eq_true rfl, Nat.le_of_ble_eq_true rfl⟩ [] (of_decide_eq_true rfl) (of_decide_eq_true rfl) rfl rfl rfl (fun H locs hP hD hS => ?_)
        refine va_last hx hb hK hP hD hS 7 6 rfl rfl h_25 dX12_laysRange_259 (fun H locs hP hD hS => ?_)
        have hP : va_P (dC, dI) vwCl [(h0, .inr (12, zO a0 b0 c0)), zVi (a0 19) k1 28 f1, zVi (a0 20) k2 28 f2, zVi (a0 21) k3 28 f3, zVl (a0 31) k4 14 (vp_updL f4 p1.toNatClampNeg o_21), zVl (a0 22) k5 28 f5, zVl (a0 23) k6 28 f6, zVl (a0 32) k7 14 (vp_updL f7 p1.toNatClampNeg o_26)] H := hP
        have hD := zDW hD hP rfl
        have ho := Option.some.inj hfn
        subst ho
        exact zrv hx hb hr hK hP hD hS hQ trivial hlocks dX12_laysRange_260
      have hfn := (if_pos c_20).symm.trans hfn
      refine lv_iconst (v := 3) hx hb dX12_laysRange_130 zci_3 ?_
      refine lv_lload_n hx hb dX12_laysRange_131 rfl (lv_at hl 3 rfl) ?_
      refine lv_lload hx hb dX12_laysRange_132 (lv_at hl 1 rfl) ?_
      refine lv_lconst (v := 1) hx hb dX12_laysRange_134 (by decide +kernel) ?_
      obtain ⟨o_30, hqo_30, hfn⟩ := zb_s hfn
      refine zcSl (rest := []) (pc' := 138) (ws' := [(h0, .inr (12, zO a0 b0 c0)), zVi (a0 19) k1 28 f1, zVi (a0 20) k2 28 f2, zVi (a0 21) k3 28 f3, zVl (a0 31) k4 14 f4, zVl (a0 22) k5 28 f5, zVl (a0 23) k6 28 f6, zVl (a0 32) k7 14 f7]) hP hK hD hS hA ⟨hx, hb, hml, hown, hts⟩ (zf_X12_two l dC dI 3 o_3 o_11 (1 : Int64) o_30 hqo_30 H.size) (va_cwS 4 hts gX12_laysRange_X12_two rfl rfl rfl zhd_X12_two.2 ⟨Nat.le_of_ble_eq_true rfl, Nat.le_of_ble_eq_true rfl⟩) [] rfl (of_decide_eq_true rfl) [] rfl rfl hl.1 rfl (Nat.le_of_ble_eq_true rfl) dX12_laysRange_135 ⟨Nat.le_of_ble_eq_true rfl, Nat.le_of_ble_eq_true rfl⟩ [] (of_decide_eq_true rfl) (of_decide_eq_true rfl) rfl rfl rfl (fun H locs hP hD hS => ?_)
      refine lv_lstore (lv' := [(10, .long o_30), (8, .long o_15), (6, .long o_11), (4, .long o_7), (2, .long o_3), (0, .ref h0), (1, .int p1)]) hx hb dX12_laysRange_138 hl (of_decide_eq_true rfl) rfl (fun ls hl => ?_)
      refine lv_iconst (v := 3) hx hb dX12_laysRange_140 zci_3 ?_
      refine lv_lload_n hx hb dX12_laysRange_141 rfl (lv_at hl 4 rfl) ?_
      refine lv_lload hx hb dX12_laysRange_142 (lv_at hl 1 rfl) ?_
      refine lv_lconst (v := 1) hx hb dX12_laysRange_144 (by decide +kernel) ?_
      obtain ⟨o_34, hqo_34, hfn⟩ := zb_s hfn
      refine zcSl (rest := []) (pc' := 148) (ws' := [(h0, .inr (12, zO a0 b0 c0)), zVi (a0 19) k1 28 f1, zVi (a0 20) k2 28 f2, zVi (a0 21) k3 28 f3, zVl (a0 31) k4 14 f4, zVl (a0 22) k5 28 f5, zVl (a0 23) k6 28 f6, zVl (a0 32) k7 14 f7]) hP hK hD hS hA ⟨hx, hb, hml, hown, hts⟩ (zf_X12_two l dC dI 3 o_3 o_15 (1 : Int64) o_34 hqo_34 H.size) (va_cwS 4 hts gX12_laysRange_X12_two rfl rfl rfl zhd_X12_two.2 ⟨Nat.le_of_ble_eq_true rfl, Nat.le_of_ble_eq_true rfl⟩) [] rfl (of_decide_eq_true rfl) [] rfl rfl hl.1 rfl (Nat.le_of_ble_eq_true rfl) dX12_laysRange_145 ⟨Nat.le_of_ble_eq_true rfl, Nat.le_of_ble_eq_true rfl⟩ [] (of_decide_eq_true rfl) (of_decide_eq_true rfl) rfl rfl rfl (fun H locs hP hD hS => ?_)
      refine lv_lstore (lv' := [(12, .long o_34), (10, .long o_30), (8, .long o_15), (6, .long o_11), (4, .long o_7), (2, .long o_3), (0, .ref h0), (1, .int p1)]) hx hb dX12_laysRange_148 hl (of_decide_eq_true rfl) rfl (fun ls hl => ?_)
      refine lv_iconst (v := 3) hx hb dX12_laysRange_150 zci_3 ?_
      refine lv_lload hx hb dX12_laysRange_151 (lv_at hl 4 rfl) ?_
      refine lv_lload hx hb dX12_laysRange_153 (lv_at hl 3 rfl) ?_
      refine lv_lconst (v := 1) hx hb dX12_laysRange_155 (by decide +kernel) ?_
      obtain ⟨o_38, hqo_38, hfn⟩ := zb_s hfn
      refine zcSl (rest := []) (pc' := 159) (ws' := [(h0, .inr (12, zO a0 b0 c0)), zVi (a0 19) k1 28 f1, zVi (a0 20) k2 28 f2, zVi (a0 21) k3 28 f3, zVl (a0 31) k4 14 f4, zVl (a0 22) k5 28 f5, zVl (a0 23) k6 28 f6, zVl (a0 32) k7 14 f7]) hP hK hD hS hA ⟨hx, hb, hml, hown, hts⟩ (zf_X12_two l dC dI 3 o_7 o_11 (1 : Int64) o_38 hqo_38 H.size) (va_cwS 4 hts gX12_laysRange_X12_two rfl rfl rfl zhd_X12_two.2 ⟨Nat.le_of_ble_eq_true rfl, Nat.le_of_ble_eq_true rfl⟩) [] rfl (of_decide_eq_true rfl) [] rfl rfl hl.1 rfl (Nat.le_of_ble_eq_true rfl) dX12_laysRange_156 ⟨Nat.le_of_ble_eq_true rfl, Nat.le_of_ble_eq_true rfl⟩ [] (of_decide_eq_true rfl) (of_decide_eq_true rfl) rfl rfl rfl (fun H locs hP hD hS => ?_)
      refine lv_lstore (lv' := [(14, .long o_38), (12, .long o_34), (10, .long o_30), (8, .long o_15), (6, .long o_11), (4, .long o_7), (2, .long o_3), (0, .ref h0), (1, .int p1)]) hx hb dX12_laysRange_159 hl (of_decide_eq_true rfl) rfl (fun ls hl => ?_)
      refine lv_iconst (v := 3) hx hb dX12_laysRange_161 zci_3 ?_
      refine lv_lload hx hb dX12_laysRange_162 (lv_at hl 5 rfl) ?_
      refine lv_lload hx hb dX12_laysRange_164 (lv_at hl 3 rfl) ?_
      refine lv_lconst (v := 1) hx hb dX12_laysRange_166 (by decide +kernel) ?_
      obtain ⟨o_42, hqo_42, hfn⟩ := zb_s hfn
      refine zcSl (rest := []) (pc' := 170) (ws' := [(h0, .inr (12, zO a0 b0 c0)), zVi (a0 19) k1 28 f1, zVi (a0 20) k2 28 f2, zVi (a0 21) k3 28 f3, zVl (a0 31) k4 14 f4, zVl (a0 22) k5 28 f5, zVl (a0 23) k6 28 f6, zVl (a0 32) k7 14 f7]) hP hK hD hS hA ⟨hx, hb, hml, hown, hts⟩ (zf_X12_two l dC dI 3 o_7 o_15 (1 : Int64) o_42 hqo_42 H.size) (va_cwS 4 hts gX12_laysRange_X12_two rfl rfl rfl zhd_X12_two.2 ⟨Nat.le_of_ble_eq_true rfl, Nat.le_of_ble_eq_true rfl⟩) [] rfl (of_decide_eq_true rfl) [] rfl rfl hl.1 rfl (Nat.le_of_ble_eq_true rfl) dX12_laysRange_167 ⟨Nat.le_of_ble_eq_true rfl, Nat.le_of_ble_eq_true rfl⟩ [] (of_decide_eq_true rfl) (of_decide_eq_true rfl) rfl rfl rfl (fun H locs hP hD hS => ?_)
      refine lv_lstore (lv' := [(16, .long o_42), (14, .long o_38), (12, .long o_34), (10, .long o_30), (8, .long o_15), (6, .long o_11), (4, .long o_7), (2, .long o_3), (0, .ref h0), (1, .int p1)]) hx hb dX12_laysRange_170 hl (of_decide_eq_true rfl) rfl (fun ls hl => ?_)
      refine lv_aload_n hx hb dX12_laysRange_172 rfl (lv_at hl 8 rfl) ?_
      refine va_get (D := (dC, dI)) (ci := 12) (v := .ref (a0 31)) (C := RX12) (T := TX12) (N := 67) hx hb hts zn_X12_laysRange_X12 hown hK hP 0 rfl rfl 31 (of_decide_eq_true rfl) (hts (.fieldLink RX12 106 "ShortEnoughModel" "least" "[J") zw_X12_laysRange_1102) (fun _ h9 => h9) rfl dX12_laysRange_173 ?_
      refine lv_iload_n hx hb dX12_laysRange_176 rfl (lv_at hl 9 rfl) ?_
      refine lv_lload hx hb dX12_laysRange_177 (lv_at hl 3 rfl) ?_
      refine lv_lload hx hb dX12_laysRange_179 (lv_at hl 2 rfl) ?_
      obtain ⟨o_46, hqo_46, hfn⟩ := zb_s hfn
      refine zcSl (rest := [.int p1, .ref (a0 31)]) (pc' := 184) (ws' := [(h0, .inr (12, zO a0 b0 c0)), zVi (a0 19) k1 28 f1, zVi (a0 20) k2 28 f2, zVi (a0 21) k3 28 f3, zVl (a0 31) k4 14 f4, zVl (a0 22) k5 28 f5, zVl (a0 23) k6 28 f6, zVl (a0 32) k7 14 f7]) hP hK hD hS hA ⟨hx, hb, hml, hown, hts⟩ (zf_X12_lesser l dC dI o_30 o_34 o_46 hqo_46 H.size) (va_cwS 2 hts gX12_laysRange_X12_lesser rfl rfl rfl zhd_X12_lesser.2 ⟨Nat.le_of_ble_eq_true rfl, Nat.le_of_ble_eq_true rfl⟩) [] rfl (of_decide_eq_true rfl) [] rfl rfl hl.1 rfl (Nat.le_of_ble_eq_true rfl) dX12_laysRange_181 ⟨Nat.le_of_ble_eq_true rfl, Nat.le_of_ble_eq_true rfl⟩ [] (of_decide_eq_true rfl) (of_decide_eq_true rfl) rfl rfl rfl (fun H locs hP hD hS => ?_)
      refine lv_lload hx hb dX12_laysRange_184 (lv_at hl 1 rfl) ?_
      refine lv_lload hx hb dX12_laysRange_186 (lv_at hl 0 rfl) ?_
      obtain ⟨o_50, hqo_50, hfn⟩ := zb_s hfn
      refine zcSl (rest := [.long o_46, .int p1, .ref (a0 31)]) (pc' := 191) (ws' := [(h0, .inr (12, zO a0 b0 c0)), zVi (a0 19) k1 28 f1, zVi (a0 20) k2 28 f2, zVi (a0 21) k3 28 f3, zVl (a0 31) k4 14 f4, zVl (a0 22) k5 28 f5, zVl (a0 23) k6 28 f6, zVl (a0 32) k7 14 f7]) hP hK hD hS hA ⟨hx, hb, hml, hown, hts⟩ (zf_X12_lesser l dC dI o_38 o_42 o_50 hqo_50 H.size) (va_cwS 2 hts gX12_laysRange_X12_lesser rfl rfl rfl zhd_X12_lesser.2 ⟨Nat.le_of_ble_eq_true rfl, Nat.le_of_ble_eq_true rfl⟩) [] rfl (of_decide_eq_true rfl) [] rfl rfl hl.1 rfl (Nat.le_of_ble_eq_true rfl) dX12_laysRange_188 ⟨Nat.le_of_ble_eq_true rfl, Nat.le_of_ble_eq_true rfl⟩ [] (of_decide_eq_true rfl) (of_decide_eq_true rfl) rfl rfl rfl (fun H locs hP hD hS => ?_)
      obtain ⟨o_54, hqo_54, hfn⟩ := zb_s hfn
      refine zcSl (rest := [.int p1, .ref (a0 31)]) (pc' := 194) (ws' := [(h0, .inr (12, zO a0 b0 c0)), zVi (a0 19) k1 28 f1, zVi (a0 20) k2 28 f2, zVi (a0 21) k3 28 f3, zVl (a0 31) k4 14 f4, zVl (a0 22) k5 28 f5, zVl (a0 23) k6 28 f6, zVl (a0 32) k7 14 f7]) hP hK hD hS hA ⟨hx, hb, hml, hown, hts⟩ (zf_X12_lesser l dC dI o_46 o_50 o_54 hqo_54 H.size) (va_cwS 2 hts gX12_laysRange_X12_lesser rfl rfl rfl zhd_X12_lesser.2 ⟨Nat.le_of_ble_eq_true rfl, Nat.le_of_ble_eq_true rfl⟩) [] rfl (of_decide_eq_true rfl) [] rfl rfl hl.1 rfl (Nat.le_of_ble_eq_true rfl) dX12_laysRange_191 ⟨Nat.le_of_ble_eq_true rfl, Nat.le_of_ble_eq_true rfl⟩ [] (of_decide_eq_true rfl) (of_decide_eq_true rfl) rfl rfl rfl (fun H locs hP hD hS => ?_)
      obtain ⟨h_58, hfn⟩ := zg_s hfn
      refine va_last hx hb hK hP hD hS 4 3 rfl rfl h_58 dX12_laysRange_194 (fun H locs hP hD hS => ?_)
      have hP : va_P (dC, dI) vwCl [(h0, .inr (12, zO a0 b0 c0)), zVi (a0 19) k1 28 f1, zVi (a0 20) k2 28 f2, zVi (a0 21) k3 28 f3, zVl (a0 31) k4 14 (vp_updL f4 p1.toNatClampNeg o_54), zVl (a0 22) k5 28 f5, zVl (a0 23) k6 28 f6, zVl (a0 32) k7 14 f7] H := hP
      have hD := zDW hD hP rfl
      refine lv_aload_n hx hb dX12_laysRange_195 rfl (lv_at hl 8 rfl) ?_
      refine va_get (D := (dC, dI)) (ci := 12) (v := .ref (a0 32)) (C := RX12) (T := TX12) (N := 67) hx hb hts zn_X12_laysRange_X12 hown hK hP 0 rfl rfl 32 (of_decide_eq_true rfl) (hts (.fieldLink RX12 109 "ShortEnoughModel" "greatest" "[J") zw_X12_laysRange_1103) (fun _ h9 => h9) rfl dX12_laysRange_196 ?_
      refine lv_iload_n hx hb dX12_laysRange_199 rfl (lv_at hl 9 rfl) ?_
      refine lv_lload hx hb dX12_laysRange_200 (lv_at hl 3 rfl) ?_
      refine lv_lload hx hb dX12_laysRange_202 (lv_at hl 2 rfl) ?_
      obtain ⟨o_59, hqo_59, hfn⟩ := zb_s hfn
      refine zcSl (rest := [.int p1, .ref (a0 32)]) (pc' := 207) (ws' := [(h0, .inr (12, zO a0 b0 c0)), zVi (a0 19) k1 28 f1, zVi (a0 20) k2 28 f2, zVi (a0 21) k3 28 f3, zVl (a0 31) k4 14 (vp_updL f4 p1.toNatClampNeg o_54), zVl (a0 22) k5 28 f5, zVl (a0 23) k6 28 f6, zVl (a0 32) k7 14 f7]) hP hK hD hS hA ⟨hx, hb, hml, hown, hts⟩ (zf_X12_greater l dC dI o_30 o_34 o_59 hqo_59 H.size) (va_cwS 2 hts gX12_laysRange_X12_greater rfl rfl rfl zhd_X12_greater.2 ⟨Nat.le_of_ble_eq_true rfl, Nat.le_of_ble_eq_true rfl⟩) [] rfl (of_decide_eq_true rfl) [] rfl rfl hl.1 rfl (Nat.le_of_ble_eq_true rfl) dX12_laysRange_204 ⟨Nat.le_of_ble_eq_true rfl, Nat.le_of_ble_eq_true rfl⟩ [] (of_decide_eq_true rfl) (of_decide_eq_true rfl) rfl rfl rfl (fun H locs hP hD hS => ?_)
      refine lv_lload hx hb dX12_laysRange_207 (lv_at hl 1 rfl) ?_
      refine lv_lload hx hb dX12_laysRange_209 (lv_at hl 0 rfl) ?_
      obtain ⟨o_63, hqo_63, hfn⟩ := zb_s hfn
      refine zcSl (rest := [.long o_59, .int p1, .ref (a0 32)]) (pc' := 214) (ws' := [(h0, .inr (12, zO a0 b0 c0)), zVi (a0 19) k1 28 f1, zVi (a0 20) k2 28 f2, zVi (a0 21) k3 28 f3, zVl (a0 31) k4 14 (vp_updL f4 p1.toNatClampNeg o_54), zVl (a0 22) k5 28 f5, zVl (a0 23) k6 28 f6, zVl (a0 32) k7 14 f7]) hP hK hD hS hA ⟨hx, hb, hml, hown, hts⟩ (zf_X12_greater l dC dI o_38 o_42 o_63 hqo_63 H.size) (va_cwS 2 hts gX12_laysRange_X12_greater rfl rfl rfl zhd_X12_greater.2 ⟨Nat.le_of_ble_eq_true rfl, Nat.le_of_ble_eq_true rfl⟩) [] rfl (of_decide_eq_true rfl) [] rfl rfl hl.1 rfl (Nat.le_of_ble_eq_true rfl) dX12_laysRange_211 ⟨Nat.le_of_ble_eq_true rfl, Nat.le_of_ble_eq_true rfl⟩ [] (of_decide_eq_true rfl) (of_decide_eq_true rfl) rfl rfl rfl (fun H locs hP hD hS => ?_)
      obtain ⟨o_67, hqo_67, hfn⟩ := zb_s hfn
      refine zcSl (rest := [.int p1, .ref (a0 32)]) (pc' := 217) (ws' := [(h0, .inr (12, zO a0 b0 c0)), zVi (a0 19) k1 28 f1, zVi (a0 20) k2 28 f2, zVi (a0 21) k3 28 f3, zVl (a0 31) k4 14 (vp_updL f4 p1.toNatClampNeg o_54), zVl (a0 22) k5 28 f5, zVl (a0 23) k6 28 f6, zVl (a0 32) k7 14 f7]) hP hK hD hS hA ⟨hx, hb, hml, hown, hts⟩ (zf_X12_greater l dC dI o_59 o_63 o_67 hqo_67 H.size) (va_cwS 2 hts gX12_laysRange_X12_greater rfl rfl rfl zhd_X12_greater.2 ⟨Nat.le_of_ble_eq_true rfl, Nat.le_of_ble_eq_true rfl⟩) [] rfl (of_decide_eq_true rfl) [] rfl rfl hl.1 rfl (Nat.le_of_ble_eq_true rfl) dX12_laysRange_214 ⟨Nat.le_of_ble_eq_true rfl, Nat.le_of_ble_eq_true rfl⟩ [] (of_decide_eq_true rfl) (of_decide_eq_true rfl) rfl rfl rfl (fun H locs hP hD hS => ?_)
      refine va_last hx hb hK hP hD hS 7 6 rfl rfl h_58 dX12_laysRange_217 (fun H locs hP hD hS => ?_)
      have hP : va_P (dC, dI) vwCl [(h0, .inr (12, zO a0 b0 c0)), zVi (a0 19) k1 28 f1, zVi (a0 20) k2 28 f2, zVi (a0 21) k3 28 f3, zVl (a0 31) k4 14 (vp_updL f4 p1.toNatClampNeg o_54), zVl (a0 22) k5 28 f5, zVl (a0 23) k6 28 f6, zVl (a0 32) k7 14 (vp_updL f7 p1.toNatClampNeg o_67)] H := hP
      have hD := zDW hD hP rfl
      refine lv_goto (tgt := 260) hx hb dX12_laysRange_218 (of_decide_eq_true rfl) ?_
      have ho := Option.some.inj hfn
      subst ho
      exact zrv hx hb hr hK hP hD hS hQ trivial hlocks dX12_laysRange_260
    have hfn := (if_pos c_19).symm.trans hfn
    refine lv_aload_n hx hb dX12_laysRange_96 rfl (lv_at hl 4 rfl) ?_
    refine va_get (D := (dC, dI)) (ci := 12) (v := .ref (a0 31)) (C := RX12) (T := TX12) (N := 67) hx hb hts zn_X12_laysRange_X12 hown hK hP 0 rfl rfl 31 (of_decide_eq_true rfl) (hts (.fieldLink RX12 106 "ShortEnoughModel" "least" "[J") zw_X12_laysRange_1102) (fun _ h9 => h9) rfl dX12_laysRange_97 ?_
    refine lv_iload_n hx hb dX12_laysRange_100 rfl (lv_at hl 5 rfl) ?_
    refine lv_lload_n hx hb dX12_laysRange_101 rfl (lv_at hl 3 rfl) ?_
    refine lv_lload hx hb dX12_laysRange_102 (lv_at hl 0 rfl) ?_
    refine lv_lsub hx hb dX12_laysRange_104 ?_
    obtain ⟨h_71, hfn⟩ := zg_s hfn
    refine va_last hx hb hK hP hD hS 4 3 rfl rfl h_71 dX12_laysRange_105 (fun H locs hP hD hS => ?_)
    have hP : va_P (dC, dI) vwCl [(h0, .inr (12, zO a0 b0 c0)), zVi (a0 19) k1 28 f1, zVi (a0 20) k2 28 f2, zVi (a0 21) k3 28 f3, zVl (a0 31) k4 14 (vp_updL f4 p1.toNatClampNeg (o_3 - o_15)), zVl (a0 22) k5 28 f5, zVl (a0 23) k6 28 f6, zVl (a0 32) k7 14 f7] H := hP
    have hD := zDW hD hP rfl
    refine lv_aload_n hx hb dX12_laysRange_106 rfl (lv_at hl 4 rfl) ?_
    refine va_get (D := (dC, dI)) (ci := 12) (v := .ref (a0 32)) (C := RX12) (T := TX12) (N := 67) hx hb hts zn_X12_laysRange_X12 hown hK hP 0 rfl rfl 32 (of_decide_eq_true rfl) (hts (.fieldLink RX12 109 "ShortEnoughModel" "greatest" "[J") zw_X12_laysRange_1103) (fun _ h9 => h9) rfl dX12_laysRange_107 ?_
    refine lv_iload_n hx hb dX12_laysRange_110 rfl (lv_at hl 5 rfl) ?_
    refine lv_lload hx hb dX12_laysRange_111 (lv_at hl 2 rfl) ?_
    refine lv_lload hx hb dX12_laysRange_113 (lv_at hl 1 rfl) ?_
    refine lv_lsub hx hb dX12_laysRange_115 ?_
    refine va_last hx hb hK hP hD hS 7 6 rfl rfl h_71 dX12_laysRange_116 (fun H locs hP hD hS => ?_)
    have hP : va_P (dC, dI) vwCl [(h0, .inr (12, zO a0 b0 c0)), zVi (a0 19) k1 28 f1, zVi (a0 20) k2 28 f2, zVi (a0 21) k3 28 f3, zVl (a0 31) k4 14 (vp_updL f4 p1.toNatClampNeg (o_3 - o_15)), zVl (a0 22) k5 28 f5, zVl (a0 23) k6 28 f6, zVl (a0 32) k7 14 (vp_updL f7 p1.toNatClampNeg (o_7 - o_11))] H := hP
    have hD := zDW hD hP rfl
    refine lv_goto (tgt := 260) hx hb dX12_laysRange_117 (of_decide_eq_true rfl) ?_
    have ho := Option.some.inj hfn
    subst ho
    exact zrv hx hb hr hK hP hD hS hQ trivial hlocks dX12_laysRange_260
  have hfn := (if_pos c_2).symm.trans hfn
  refine lv_iload_n hx hb dX12_laysRange_9 rfl (lv_at hl 1 rfl) ?_
  refine lv_aload_n hx hb dX12_laysRange_10 rfl (lv_at hl 0 rfl) ?_
  refine va_get (D := (dC, dI)) (ci := 12) (v := .int (b0 33)) (C := RX12) (T := TX12) (N := 67) hx hb hts zn_X12_laysRange_X12 hown hK hP 0 rfl rfl 33 (of_decide_eq_true rfl) (hts (.fieldLink RX12 112 "ShortEnoughModel" "wideNumber" "I") zw_X12_laysRange_1104) (fun _ h9 => h9) rfl dX12_laysRange_11 ?_
  obtain ⟨j_72, ej_72, hfn⟩ := zj_g hfn
  have jp_72 : ∀ (s_72 : Int64) (H : Heap) (locs : List Loc) (ls : Array Slot), j_72 s_72 = some o → va_P (dC, dI) vwCl [(h0, .inr (12, zO a0 b0 c0)), zVi (a0 19) k1 28 f1, zVi (a0 20) k2 28 f2, zVi (a0 21) k3 28 f3, zVl (a0 31) k4 14 f4, zVl (a0 22) k5 28 f5, zVl (a0 23) k6 28 f6, zVl (a0 32) k7 14 f7] H → va_D A [(h0, .inr (12, zO a0 b0 c0)), zVi (a0 19) k1 28 f1, zVi (a0 20) k2 28 f2, zVi (a0 21) k3 28 f3, zVl (a0 31) k4 14 f4, zVl (a0 22) k5 28 f5, zVl (a0 23) k6 28 f6, zVl (a0 32) k7 14 f7] → va_S A s.heap H locs → lv_has ls 18 [(0, .ref h0), (1, .int p1)] → W p l e (headSpec wsX12_laysRange ({ frames := 3, cells := 0, slots := 0, locals := 76 })).room s m ([.ref h0, .int p1] : List Value).toArray below meth c H locs 0 0 Q (F0 m 25 ls [.long s_72]) := by
    intro s_72 H locs ls hfn hP hD hS hl
    have hfn := zj_s ej_72 hfn
    refine lv_lstore_n (lv' := [(2, .long s_72), (0, .ref h0), (1, .int p1)]) hx hb dX12_laysRange_25 rfl hl (of_decide_eq_true rfl) rfl (fun ls hl => ?_)
    refine lv_aload_n hx hb dX12_laysRange_26 rfl (lv_at hl 1 rfl) ?_
    refine va_get (D := (dC, dI)) (ci := 12) (v := .ref (a0 31)) (C := RX12) (T := TX12) (N := 67) hx hb hts zn_X12_laysRange_X12 hown hK hP 0 rfl rfl 31 (of_decide_eq_true rfl) (hts (.fieldLink RX12 106 "ShortEnoughModel" "least" "[J") zw_X12_laysRange_1102) (fun _ h9 => h9) rfl dX12_laysRange_27 ?_
    refine lv_iload_n hx hb dX12_laysRange_30 rfl (lv_at hl 2 rfl) ?_
    refine lv_aload_n hx hb dX12_laysRange_31 rfl (lv_at hl 1 rfl) ?_
    refine va_get (D := (dC, dI)) (ci := 12) (v := .ref (a0 22)) (C := RX12) (T := TX12) (N := 67) hx hb hts zn_X12_laysRange_X12 hown hK hP 0 rfl rfl 22 (of_decide_eq_true rfl) (hts (.fieldLink RX12 77 "ShortEnoughModel" "firstV" "[J") zw_X12_laysRange_1106) (fun _ h9 => h9) rfl dX12_laysRange_32 ?_
    refine lv_iload_n hx hb dX12_laysRange_35 rfl (lv_at hl 2 rfl) ?_
    obtain ⟨h_73, hfn⟩ := zg_s hfn
    refine va_lald hx hb hK hP 5 4 rfl rfl h_73 dX12_laysRange_36 ?_
    refine lv_lload_n hx hb dX12_laysRange_37 rfl (lv_at hl 0 rfl) ?_
    refine lv_lsub hx hb dX12_laysRange_38 ?_
    obtain ⟨h_74, hfn⟩ := zg_s hfn
    refine va_last hx hb hK hP hD hS 4 3 rfl rfl h_74 dX12_laysRange_39 (fun H locs hP hD hS => ?_)
    have hP : va_P (dC, dI) vwCl [(h0, .inr (12, zO a0 b0 c0)), zVi (a0 19) k1 28 f1, zVi (a0 20) k2 28 f2, zVi (a0 21) k3 28 f3, zVl (a0 31) k4 14 (vp_updL f4 p1.toNatClampNeg ((f5 p1.toNatClampNeg) - s_72)), zVl (a0 22) k5 28 f5, zVl (a0 23) k6 28 f6, zVl (a0 32) k7 14 f7] H := hP
    have hD := zDW hD hP rfl
    refine lv_aload_n hx hb dX12_laysRange_40 rfl (lv_at hl 1 rfl) ?_
    refine va_get (D := (dC, dI)) (ci := 12) (v := .ref (a0 32)) (C := RX12) (T := TX12) (N := 67) hx hb hts zn_X12_laysRange_X12 hown hK hP 0 rfl rfl 32 (of_decide_eq_true rfl) (hts (.fieldLink RX12 109 "ShortEnoughModel" "greatest" "[J") zw_X12_laysRange_1103) (fun _ h9 => h9) rfl dX12_laysRange_41 ?_
    refine lv_iload_n hx hb dX12_laysRange_44 rfl (lv_at hl 2 rfl) ?_
    refine lv_aload_n hx hb dX12_laysRange_45 rfl (lv_at hl 1 rfl) ?_
    refine va_get (D := (dC, dI)) (ci := 12) (v := .ref (a0 23)) (C := RX12) (T := TX12) (N := 67) hx hb hts zn_X12_laysRange_X12 hown hK hP 0 rfl rfl 23 (of_decide_eq_true rfl) (hts (.fieldLink RX12 81 "ShortEnoughModel" "secondV" "[J") zw_X12_laysRange_1107) (fun _ h9 => h9) rfl dX12_laysRange_46 ?_
    refine lv_iload_n hx hb dX12_laysRange_49 rfl (lv_at hl 2 rfl) ?_
    refine va_lald hx hb hK hP 6 5 rfl rfl h_73 dX12_laysRange_50 ?_
    refine lv_lload_n hx hb dX12_laysRange_51 rfl (lv_at hl 0 rfl) ?_
    refine lv_ladd hx hb dX12_laysRange_52 ?_
    refine va_last hx hb hK hP hD hS 7 6 rfl rfl h_74 dX12_laysRange_53 (fun H locs hP hD hS => ?_)
    have hP : va_P (dC, dI) vwCl [(h0, .inr (12, zO a0 b0 c0)), zVi (a0 19) k1 28 f1, zVi (a0 20) k2 28 f2, zVi (a0 21) k3 28 f3, zVl (a0 31) k4 14 (vp_updL f4 p1.toNatClampNeg ((f5 p1.toNatClampNeg) - s_72)), zVl (a0 22) k5 28 f5, zVl (a0 23) k6 28 f6, zVl (a0 32) k7 14 (vp_updL f7 p1.toNatClampNeg ((f6 p1.toNatClampNeg) + s_72))] H := hP
    have hD := zDW hD hP rfl
    have ho := Option.some.inj hfn
    subst ho
    exact zrv hx hb hr hK hP hD hS hQ trivial hlocks dX12_laysRange_54
  refine lv_icmp_ne (tgt := 24) hx hb dX12_laysRange_14 (of_decide_eq_true rfl) (fun c_75 => ?_) (fun c_75 => ?_)
  · have hfn := (if_neg c_75).symm.trans hfn
    refine lv_lconst (v := 0) hx hb dX12_laysRange_24 (by decide +kernel) ?_
    exact jp_72 0 s.heap [] ls hfn hP hD hS (lv_sub hl [0, 1] rfl)
  have hfn := (if_pos c_75).symm.trans hfn
  refine lv_aload_n hx hb dX12_laysRange_17 rfl (lv_at hl 0 rfl) ?_
  refine va_get (D := (dC, dI)) (ci := 12) (v := .long (c0 34)) (C := RX12) (T := TX12) (N := 67) hx hb hts zn_X12_laysRange_X12 hown hK hP 0 rfl rfl 34 (of_decide_eq_true rfl) (hts (.fieldLink RX12 115 "ShortEnoughModel" "wideBy" "J") zw_X12_laysRange_1105) (fun _ h9 => h9) rfl dX12_laysRange_18 ?_
  refine lv_goto (tgt := 25) hx hb dX12_laysRange_21 (of_decide_eq_true rfl) ?_
  exact jp_72 (c0 34) s.heap [] ls hfn hP hD hS (lv_sub hl [0, 1] rfl)
theorem zn_X12_mostOf_X12 : ∀ w ∈ wsX120, w ∈ wsX12_mostOf := fun _ h => List.mem_cons_of_mem _ (List.mem_append_right _ h)
theorem zw_X12_mostOf_1109 : Cond.fieldLink RX12 106 "ShortEnoughModel" "least" "[J" ∈ wsX12_mostOf := List.mem_of_getElem? (i := 1) (by decide +kernel)
theorem zw_X12_mostOf_1110 : Cond.fieldLink RX12 109 "ShortEnoughModel" "greatest" "[J" ∈ wsX12_mostOf := List.mem_of_getElem? (i := 2) (by decide +kernel)
set_option maxHeartbeats 4000000 in
set_option maxRecDepth 100000 in
theorem zf_X12_mostOf (l : Launch) (dC : Nat → ClassId) (dI : Nat → Nat → Nat) (h0 : Nat) (p1 : Int32) (a0 : Nat → Nat) (b0 : Nat → Int32) (c0 : Nat → Int64) (k1 : Nat) (f1 : Nat → Int64) (k2 : Nat) (f2 : Nat → Int64) (o : Int64) (hfn : fn_X12_mostOf p1 f1 f2 = some o) (sz : Nat) : zMl l yX12_mostOf wsX12_mostOf ({ frames := 1, cells := 0, slots := 0, locals := 23 }) (dC, dI) vwCl [.ref h0, .int p1] [(h0, .inr (12, zO a0 b0 c0)), zVl (a0 31) k1 14 f1, zVl (a0 32) k2 14 f2] [(k1, .long), (k2, .long)] (fun r _ => r = o) [(h0, .inr (12, zO a0 b0 c0)), zVl (a0 31) k1 14 f1, zVl (a0 32) k2 14 f2] [(k1, .long), (k2, .long)] sz := by
  refine zgol (cc := cX12_mostOf) (maxL := 2) (ret := (some .long)) (C0 := RX12) (lv0 := [(0, .ref h0), (1, .int p1)]) zpl_X12 rfl rfl rfl (Nat.le_of_ble_eq_true rfl) ?_
  intro p e s m below meth c A ls Q hx hb hr hts hown hlocks hml hP hK hD hA hS hl hQ
  unfold fn_X12_mostOf at hfn
  refine lv_aload_n hx hb dX12_mostOf_0 rfl (lv_at hl 0 rfl) ?_
  refine va_get (D := (dC, dI)) (ci := 12) (v := .ref (a0 31)) (C := RX12) (T := TX12) (N := 67) hx hb hts zn_X12_mostOf_X12 hown hK hP 0 rfl rfl 31 (of_decide_eq_true rfl) (hts (.fieldLink RX12 106 "ShortEnoughModel" "least" "[J") zw_X12_mostOf_1109) (fun _ h9 => h9) rfl dX12_mostOf_1 ?_
  refine lv_iload_n hx hb dX12_mostOf_4 rfl (lv_at hl 1 rfl) ?_
  obtain ⟨h_1, hfn⟩ := zg_s hfn
  refine va_lald hx hb hK hP 1 0 rfl rfl h_1 dX12_mostOf_5 ?_
  obtain ⟨o_2, hqo_2, hfn⟩ := zb_s hfn
  refine zcSl (rest := []) (pc' := 9) (ws' := [(h0, .inr (12, zO a0 b0 c0)), zVl (a0 31) k1 14 f1, zVl (a0 32) k2 14 f2]) hP hK hD hS hA ⟨hx, hb, hml, hown, hts⟩ (zf_X12_amount l dC dI (f1 p1.toNatClampNeg) o_2 hqo_2 s.heap.size) (va_cwS 1 hts gX12_mostOf_X12_amount rfl rfl rfl zhd_X12_amount.2 ⟨Nat.le_of_ble_eq_true rfl, Nat.le_of_ble_eq_true rfl⟩) [] rfl (of_decide_eq_true rfl) [] rfl rfl hl.1 rfl (Nat.le_of_ble_eq_true rfl) dX12_mostOf_6 ⟨Nat.le_of_ble_eq_true rfl, Nat.le_of_ble_eq_true rfl⟩ [] (of_decide_eq_true rfl) (of_decide_eq_true rfl) rfl rfl rfl (fun H locs hP hD hS => ?_)
  refine lv_aload_n hx hb dX12_mostOf_9 rfl (lv_at hl 0 rfl) ?_
  refine va_get (D := (dC, dI)) (ci := 12) (v := .ref (a0 32)) (C := RX12) (T := TX12) (N := 67) hx hb hts zn_X12_mostOf_X12 hown hK hP 0 rfl rfl 32 (of_decide_eq_true rfl) (hts (.fieldLink RX12 109 "ShortEnoughModel" "greatest" "[J") zw_X12_mostOf_1110) (fun _ h9 => h9) rfl dX12_mostOf_10 ?_
  refine lv_iload_n hx hb dX12_mostOf_13 rfl (lv_at hl 1 rfl) ?_
  refine va_lald hx hb hK hP 2 1 rfl rfl h_1 dX12_mostOf_14 ?_
  obtain ⟨o_6, hqo_6, hfn⟩ := zb_s hfn
  refine zcSl (rest := [.long o_2]) (pc' := 18) (ws' := [(h0, .inr (12, zO a0 b0 c0)), zVl (a0 31) k1 14 f1, zVl (a0 32) k2 14 f2]) hP hK hD hS hA ⟨hx, hb, hml, hown, hts⟩ (zf_X12_amount l dC dI (f2 p1.toNatClampNeg) o_6 hqo_6 H.size) (va_cwS 1 hts gX12_mostOf_X12_amount rfl rfl rfl zhd_X12_amount.2 ⟨Nat.le_of_ble_eq_true rfl, Nat.le_of_ble_eq_true rfl⟩) [] rfl (of_decide_eq_true rfl) [] rfl rfl hl.1 rfl (Nat.le_of_ble_eq_true rfl) dX12_mostOf_15 ⟨Nat.le_of_ble_eq_true rfl, Nat.le_of_ble_eq_true rfl⟩ [] (of_decide_eq_true rfl) (of_decide_eq_true rfl) rfl rfl rfl (fun H locs hP hD hS => ?_)
  obtain ⟨o_10, hqo_10, hfn⟩ := zb_s hfn
  refine zcSl (rest := []) (pc' := 21) (ws' := [(h0, .inr (12, zO a0 b0 c0)), zVl (a0 31) k1 14 f1, zVl (a0 32) k2 14 f2]) hP hK hD hS hA ⟨hx, hb, hml, hown, hts⟩ (zf_X12_greater l dC dI o_2 o_6 o_10 hqo_10 H.size) (va_cwS 2 hts gX12_mostOf_X12_greater rfl rfl rfl zhd_X12_greater.2 ⟨Nat.le_of_ble_eq_true rfl, Nat.le_of_ble_eq_true rfl⟩) [] rfl (of_decide_eq_true rfl) [] rfl rfl hl.1 rfl (Nat.le_of_ble_eq_true rfl) dX12_mostOf_18 ⟨Nat.le_of_ble_eq_true rfl, Nat.le_of_ble_eq_true rfl⟩ [] (of_decide_eq_true rfl) (of_decide_eq_true rfl) rfl rfl rfl (fun H locs hP hD hS => ?_)
  have ho := Option.some.inj hfn
  subst ho
  exact zrl hx hb hr hK hP hD hS hQ rfl hlocks dX12_mostOf_21
theorem zn_X12_isGreatPart_X12 : ∀ w ∈ wsX120, w ∈ wsX12_isGreatPart := fun _ h => List.mem_cons_of_mem _ (List.mem_append_right _ h)
theorem zw_X12_isGreatPart_1112 : Cond.fieldLink RX12 118 "ShortEnoughModel" "isGreat" "[Z" ∈ wsX12_isGreatPart := List.mem_of_getElem? (i := 1) (by decide +kernel)
set_option maxHeartbeats 4000000 in
set_option maxRecDepth 100000 in
theorem zf_X12_isGreatPart (l : Launch) (dC : Nat → ClassId) (dI : Nat → Nat → Nat) (h0 : Nat) (p1 : Int32) (a0 : Nat → Nat) (b0 : Nat → Int32) (c0 : Nat → Int64) (k1 : Nat) (f1 : Nat → Int32) (o : Int32) (hfn : fn_X12_isGreatPart p1 f1 = some o) (sz : Nat) : zMi l yX12_isGreatPart wsX12_isGreatPart ({ frames := 0, cells := 0, slots := 0, locals := 0 }) (dC, dI) vwCl [.ref h0, .int p1] [(h0, .inr (12, zO a0 b0 c0)), zVi (a0 35) k1 14 f1] [(k1, .boolean)] (fun r _ => r = o ∧ narrow .boolean (.int o) = .int o) [(h0, .inr (12, zO a0 b0 c0)), zVi (a0 35) k1 14 f1] [(k1, .boolean)] sz := by
  refine zgoi (cc := cX12_isGreatPart) (maxL := 2) (ret := (some .boolean)) (C0 := RX12) (lv0 := [(0, .ref h0), (1, .int p1)]) zpl_X12 rfl rfl rfl (Nat.le_of_ble_eq_true rfl) ?_
  intro p e s m below meth c A ls Q hx hb hr hts hown hlocks hml hP hK hD hA hS hl hQ
  unfold fn_X12_isGreatPart at hfn
  refine lv_iload_n hx hb dX12_isGreatPart_0 rfl (lv_at hl 1 rfl) ?_
  refine lv_iconst (v := (-1)) hx hb dX12_isGreatPart_1 zci_m1 ?_
  refine lv_icmp_eq (tgt := 18) hx hb dX12_isGreatPart_2 (of_decide_eq_true rfl) (fun c_1 => ?_) (fun c_1 => ?_)
  · have hfn := (if_pos c_1).symm.trans hfn
    refine lv_iconst (v := 0) hx hb dX12_isGreatPart_18 zci_0 ?_
    have ho := Option.some.inj hfn
    subst ho
    exact zrz hx hb hr rfl hK hP hD hS hQ ⟨rfl, zB0⟩ hlocks dX12_isGreatPart_19
  have hfn := (if_neg c_1).symm.trans hfn
  refine lv_aload_n hx hb dX12_isGreatPart_5 rfl (lv_at hl 0 rfl) ?_
  refine va_get (D := (dC, dI)) (ci := 12) (v := .ref (a0 35)) (C := RX12) (T := TX12) (N := 67) hx hb hts zn_X12_isGreatPart_X12 hown hK hP 0 rfl rfl 35 (of_decide_eq_true rfl) (hts (.fieldLink RX12 118 "ShortEnoughModel" "isGreat" "[Z") zw_X12_isGreatPart_1112) (fun _ h9 => h9) rfl dX12_isGreatPart_6 ?_
  refine lv_iload_n hx hb dX12_isGreatPart_9 rfl (lv_at hl 1 rfl) ?_
  obtain ⟨h_2, hfn⟩ := zg_s hfn
  refine va_zald hx hb hK hP 1 0 rfl rfl h_2 dX12_isGreatPart_10 ?_
  refine lv_if_eq (tgt := 18) hx hb dX12_isGreatPart_11 (of_decide_eq_true rfl) (fun c_3 => ?_) (fun c_3 => ?_)
  · have hfn := (if_pos c_3).symm.trans hfn
    refine lv_iconst (v := 0) hx hb dX12_isGreatPart_18 zci_0 ?_
    have ho := Option.some.inj hfn
    subst ho
    exact zrz hx hb hr rfl hK hP hD hS hQ ⟨rfl, zB0⟩ hlocks dX12_isGreatPart_19
  have hfn := (if_neg c_3).symm.trans hfn
  refine lv_iconst (v := 1) hx hb dX12_isGreatPart_14 zci_1 ?_
  refine lv_goto (tgt := 19) hx hb dX12_isGreatPart_15 (of_decide_eq_true rfl) ?_
  have ho := Option.some.inj hfn
  subst ho
  exact zrz hx hb hr rfl hK hP hD hS hQ ⟨rfl, zB1⟩ hlocks dX12_isGreatPart_19
theorem zn_X12_range_X12 : ∀ w ∈ wsX120, w ∈ wsX12_range := fun _ h => List.mem_cons_of_mem _ (List.mem_append_right _ h)
theorem zw_X12_range_1114 : Cond.fieldLink RX12 112 "ShortEnoughModel" "wideNumber" "I" ∈ wsX12_range := List.mem_of_getElem? (i := 2) (by decide +kernel)
theorem zw_X12_range_1115 : Cond.fieldLink RX12 118 "ShortEnoughModel" "isGreat" "[Z" ∈ wsX12_range := List.mem_of_getElem? (i := 3) (by decide +kernel)
theorem zw_X12_range_1116 : Cond.fieldLink RX12 71 "ShortEnoughModel" "first" "[I" ∈ wsX12_range := List.mem_of_getElem? (i := 4) (by decide +kernel)
theorem zw_X12_range_1117 : Cond.fieldLink RX12 74 "ShortEnoughModel" "second" "[I" ∈ wsX12_range := List.mem_of_getElem? (i := 5) (by decide +kernel)
theorem zw_X12_range_1118 : Cond.constantLong RX12 294 (1000000000) ∈ wsX12_range := List.mem_of_getElem? (i := 6) (by decide +kernel)
theorem zw_X12_range_1119 : Cond.fieldLink RX12 106 "ShortEnoughModel" "least" "[J" ∈ wsX12_range := List.mem_of_getElem? (i := 8) (by decide +kernel)
theorem zw_X12_range_1120 : Cond.fieldLink RX12 109 "ShortEnoughModel" "greatest" "[J" ∈ wsX12_range := List.mem_of_getElem? (i := 7) (by decide +kernel)
theorem zw_X12_range_1121 : Cond.constantLong RX12 381 (-1000000000000000) ∈ wsX12_range := List.mem_of_getElem? (i := 1) (by decide +kernel)
set_option maxHeartbeats 4000000 in
set_option maxRecDepth 100000 in
theorem zf_X12_range (l : Launch) (dC : Nat → ClassId) (dI : Nat → Nat → Nat) (h0 : Nat) (p1 : Int32) (p2 : Int32) (a0 : Nat → Nat) (b0 : Nat → Int32) (c0 : Nat → Int64) (k1 : Nat) (f1 : Nat → Int32) (k2 : Nat) (f2 : Nat → Int32) (k3 : Nat) (f3 : Nat → Int32) (k4 : Nat) (f4 : Nat → Int32) (k5 : Nat) (f5 : Nat → Int32) (k6 : Nat) (f6 : Nat → Int64) (k7 : Nat) (f7 : Nat → Int64) (k8 : Nat) (f8 : Nat → Int64) (k9 : Nat) (f9 : Nat → Int64) (o : Int64 × Int32 × (Nat → Int32) × (Nat → Int64) × (Nat → Int64)) (hfn : fn_X12_range p1 p2 (b0 33) (c0 34) f1 f2 f3 f4 f5 f6 f7 f8 f9 = some o) (sz : Nat) : zMl l yX12_range wsX12_range ({ frames := 4, cells := 0, slots := 0, locals := 113 }) (dC, dI) vwCl [.ref h0, .int p1, .int p2] [(h0, .inr (12, zO a0 b0 c0)), zVi (a0 17) k1 2 f1, zVi (a0 20) k2 28 f2, zVi (a0 35) k3 14 f3, zVi (a0 21) k4 28 f4, zVi (a0 19) k5 28 f5, zVl (a0 31) k6 14 f6, zVl (a0 22) k7 28 f7, zVl (a0 23) k8 28 f8, zVl (a0 32) k9 14 f9] [(k1, .int), (k2, .int), (k3, .boolean), (k4, .int), (k5, .int), (k6, .long), (k7, .long), (k8, .long), (k9, .long)] (fun r _ => r = o.1) [(h0, .inr (12, zO a0 (zI b0 33 o.2.1) c0)), zVi (a0 17) k1 2 f1, zVi (a0 20) k2 28 f2, zVi (a0 35) k3 14 o.2.2.1, zVi (a0 21) k4 28 f4, zVi (a0 19) k5 28 f5, zVl (a0 31) k6 14 o.2.2.2.1, zVl (a0 22) k7 28 f7, zVl (a0 23) k8 28 f8, zVl (a0 32) k9 14 o.2.2.2.2] [(k1, .int), (k2, .int), (k3, .boolean), (k4, .int), (k5, .int), (k6, .long), (k7, .long), (k8, .long), (k9, .long)] sz := by
  refine zgol (cc := cX12_range) (maxL := 4) (ret := (some .long)) (C0 := RX12) (lv0 := [(0, .ref h0), (1, .int p1), (2, .int p2)]) zpl_X12 rfl rfl rfl (Nat.le_of_ble_eq_true rfl) ?_
  intro p e s m below meth c A ls Q hx hb hr hts hown hlocks hml hP hK hD hA hS hl hQ
  unfold fn_X12_range at hfn
  refine lv_aload_n hx hb dX12_range_0 rfl (lv_at hl 0 rfl) ?_
  refine lv_iload_n hx hb dX12_range_1 rfl (lv_at hl 1 rfl) ?_
  obtain ⟨o_1, hqo_1, hfn⟩ := zb_s hfn
  refine zcVb (ci := 12) (rest := []) (pc' := 5) (ws' := [(h0, .inr (12, zO a0 b0 c0)), zVi (a0 17) k1 2 f1, zVi (a0 20) k2 28 f2, zVi (a0 35) k3 14 f3, zVi (a0 21) k4 28 f4, zVi (a0 19) k5 28 f5, zVl (a0 31) k6 14 f6, zVl (a0 22) k7 28 f7, zVl (a0 23) k8 28 f8, zVl (a0 32) k9 14 f9]) hP hK hD hS hA ⟨hx, hb, hml, hown, hts⟩ (zf_X12_isNumber l dC dI h0 p1 a0 b0 c0 k1 f1 o_1 hqo_1 s.heap.size) (cwV 1 hts gX12_range_X12_isNumber rfl rfl rfl zhd_X12_isNumber ⟨Nat.le_of_ble_eq_true rfl, Nat.le_of_ble_eq_true rfl⟩) [0, 1] rfl (of_decide_eq_true rfl) [0] rfl rfl rfl rfl hl.1 rfl (Nat.le_of_ble_eq_true rfl) dX12_range_2 ⟨Nat.le_of_ble_eq_true rfl, Nat.le_of_ble_eq_true rfl⟩ [some 0, some 1] (of_decide_eq_true rfl) (of_decide_eq_true rfl) rfl rfl rfl (fun H locs hw_4n hP hD hS => ?_)
  refine lv_if_ne (tgt := 12) hx hb dX12_range_5 (of_decide_eq_true rfl) (fun c_5 => ?_) (fun c_5 => ?_)
  · have hfn := (if_neg c_5).symm.trans hfn
    refine lv_aload_n hx hb dX12_range_12 rfl (lv_at hl 0 rfl) ?_
    refine lv_iconst (v := (-1)) hx hb dX12_range_13 zci_m1 ?_
    refine va_put (D := (dC, dI)) (ci := 12) (v := .int (-1)) (ty := .int) (C := RX12) (T := TX12) (N := 67) hx hb hts zn_X12_range_X12 tyX12 tyX12_ok nmX12 hown hK hP hD hS 0 rfl rfl 33 (of_decide_eq_true rfl) (hts (.fieldLink RX12 112 "ShortEnoughModel" "wideNumber" "I") zw_X12_range_1114) (fun _ h9 => h9) rfl (tyX12_ok 33 (of_decide_eq_true rfl)) rfl rfl (Nat.le_of_ble_eq_true rfl) dX12_range_14 (fun H locs hP hD hS => ?_)
    have hP : va_P (dC, dI) vwCl [(h0, .inr (12, zO a0 (zI b0 33 (-1)) c0)), zVi (a0 17) k1 2 f1, zVi (a0 20) k2 28 f2, zVi (a0 35) k3 14 f3, zVi (a0 21) k4 28 f4, zVi (a0 19) k5 28 f5, zVl (a0 31) k6 14 f6, zVl (a0 22) k7 28 f7, zVl (a0 23) k8 28 f8, zVl (a0 32) k9 14 f9] H := hP
    have hD := zDW hD hP rfl
    refine lv_iconst (v := 0) hx hb dX12_range_17 zci_0 ?_
    refine lv_istore_n (lv' := [(3, .int 0), (0, .ref h0), (1, .int p1), (2, .int p2)]) hx hb dX12_range_18 rfl hl (of_decide_eq_true rfl) rfl (fun ls hl => ?_)
    obtain ⟨bd_6, ebd_6, hfn⟩ := zl_g hfn
    have lp_6 : ∀ (n : Nat) (s_6 : Int32 × (Nat → Int64) × (Nat → Int64) × (Nat → Int32)) (H : Heap) (locs : List Loc) (ls : Array Slot), zl bd_6 n s_6 = some o → va_P (dC, dI) vwCl [(h0, .inr (12, zO a0 (zI b0 33 (-1)) c0)), zVi (a0 17) k1 2 f1, zVi (a0 20) k2 28 f2, zVi (a0 35) k3 14 s_6.2.2.2, zVi (a0 21) k4 28 f4, zVi (a0 19) k5 28 f5, zVl (a0 31) k6 14 s_6.2.1, zVl (a0 22) k7 28 f7, zVl (a0 23) k8 28 f8, zVl (a0 32) k9 14 s_6.2.2.1] H → va_D A [(h0, .inr (12, zO a0 (zI b0 33 (-1)) c0)), zVi (a0 17) k1 2 f1, zVi (a0 20) k2 28 f2, zVi (a0 35) k3 14 s_6.2.2.2, zVi (a0 21) k4 28 f4, zVi (a0 19) k5 28 f5, zVl (a0 31) k6 14 s_6.2.1, zVl (a0 22) k7 28 f7, zVl (a0 23) k8 28 f8, zVl (a0 32) k9 14 s_6.2.2.1] → va_S A s.heap H locs → lv_has ls 4 [(3, .int s_6.1), (0, .ref h0), (1, .int p1), (2, .int p2)] → W p l e (headSpec wsX12_range ({ frames := 4, cells := 0, slots := 0, locals := 113 })).room s m ([.ref h0, .int p1, .int p2] : List Value).toArray below meth c H locs 0 0 Q (F0 m 19 ls []) := by
      intro n
      induction n with
      | zero => exact fun _ _ _ _ hfn => (zl_0 hfn).elim
      | succ n ih_6 =>
        intro s_6 H locs ls hfn hP hD hS hl
        have hfn := zl_s ebd_6 hfn
        refine lv_iload_n hx hb dX12_range_19 rfl (lv_at hl 0 rfl) ?_
        refine lv_iload_n hx hb dX12_range_20 rfl (lv_at hl 2 rfl) ?_
        refine lv_icmp_gt (tgt := 107) hx hb dX12_range_21 (of_decide_eq_true rfl) (fun c_7 => ?_) (fun c_7 => ?_)
        · have hfn := (if_pos c_7).symm.trans hfn
          refine lv_aload_n hx hb dX12_range_107 rfl (lv_at hl 1 rfl) ?_
          refine va_get (D := (dC, dI)) (ci := 12) (v := .ref (a0 35)) (C := RX12) (T := TX12) (N := 67) hx hb hts zn_X12_range_X12 hown hK hP 0 rfl rfl 35 (of_decide_eq_true rfl) (hts (.fieldLink RX12 118 "ShortEnoughModel" "isGreat" "[Z") zw_X12_range_1115) (fun _ h9 => h9) rfl dX12_range_108 ?_
          refine lv_iload_n hx hb dX12_range_111 rfl (lv_at hl 2 rfl) ?_
          obtain ⟨h_8, hfn⟩ := zg_s hfn
          refine va_zald hx hb hK hP 3 2 rfl rfl h_8 dX12_range_112 ?_
          refine lv_if_eq (tgt := 122) hx hb dX12_range_113 (of_decide_eq_true rfl) (fun c_9 => ?_) (fun c_9 => ?_)
          · have hfn := (if_pos c_9).symm.trans hfn
            refine lv_iload_n hx hb dX12_range_122 rfl (lv_at hl 3 rfl) ?_
            refine lv_if_eq (tgt := 135) hx hb dX12_range_123 (of_decide_eq_true rfl) (fun c_10 => ?_) (fun c_10 => ?_)
            · have hfn := (if_pos c_10).symm.trans hfn
              refine lv_aload_n hx hb dX12_range_135 rfl (lv_at hl 1 rfl) ?_
              refine va_get (D := (dC, dI)) (ci := 12) (v := .ref (a0 31)) (C := RX12) (T := TX12) (N := 67) hx hb hts zn_X12_range_X12 hown hK hP 0 rfl rfl 31 (of_decide_eq_true rfl) (hts (.fieldLink RX12 106 "ShortEnoughModel" "least" "[J") zw_X12_range_1119) (fun _ h9 => h9) rfl dX12_range_136 ?_
              refine lv_iload_n hx hb dX12_range_139 rfl (lv_at hl 2 rfl) ?_
              refine va_lald hx hb hK hP 6 5 rfl rfl h_8 dX12_range_140 ?_
              have ho := Option.some.inj hfn
              subst ho
              exact zrl hx hb hr hK hP hD hS hQ rfl hlocks dX12_range_141
            have hfn := (if_neg c_10).symm.trans hfn
            refine lv_aload_n hx hb dX12_range_126 rfl (lv_at hl 1 rfl) ?_
            refine va_get (D := (dC, dI)) (ci := 12) (v := .ref (a0 32)) (C := RX12) (T := TX12) (N := 67) hx hb hts zn_X12_range_X12 hown hK hP 0 rfl rfl 32 (of_decide_eq_true rfl) (hts (.fieldLink RX12 109 "ShortEnoughModel" "greatest" "[J") zw_X12_range_1120) (fun _ h9 => h9) rfl dX12_range_127 ?_
            refine lv_iload_n hx hb dX12_range_130 rfl (lv_at hl 2 rfl) ?_
            refine va_lald hx hb hK hP 9 8 rfl rfl h_8 dX12_range_131 ?_
            refine lv_goto (tgt := 141) hx hb dX12_range_132 (of_decide_eq_true rfl) ?_
            have ho := Option.some.inj hfn
            subst ho
            exact zrl hx hb hr hK hP hD hS hQ rfl hlocks dX12_range_141
          have hfn := (if_neg c_9).symm.trans hfn
          refine lv_ldc2 (v := (-1000000000000000)) hx hb hown (hts (.constantLong RX12 381 (-1000000000000000)) zw_X12_range_1121) dX12_range_116 ?_
          refine lv_goto (tgt := 141) hx hb dX12_range_119 (of_decide_eq_true rfl) ?_
          have ho := Option.some.inj hfn
          subst ho
          exact zrl hx hb hr hK hP hD hS hQ rfl hlocks dX12_range_141
        have hfn := (if_neg c_7).symm.trans hfn
        refine lv_aload_n hx hb dX12_range_24 rfl (lv_at hl 1 rfl) ?_
        refine va_get (D := (dC, dI)) (ci := 12) (v := .ref (a0 35)) (C := RX12) (T := TX12) (N := 67) hx hb hts zn_X12_range_X12 hown hK hP 0 rfl rfl 35 (of_decide_eq_true rfl) (hts (.fieldLink RX12 118 "ShortEnoughModel" "isGreat" "[Z") zw_X12_range_1115) (fun _ h9 => h9) rfl dX12_range_25 ?_
        refine lv_iload_n hx hb dX12_range_28 rfl (lv_at hl 0 rfl) ?_
        refine lv_aload_n hx hb dX12_range_29 rfl (lv_at hl 1 rfl) ?_
        refine lv_aload_n hx hb dX12_range_30 rfl (lv_at hl 1 rfl) ?_
        refine va_get (D := (dC, dI)) (ci := 12) (v := .ref (a0 20)) (C := RX12) (T := TX12) (N := 67) hx hb hts zn_X12_range_X12 hown hK hP 0 rfl rfl 20 (of_decide_eq_true rfl) (hts (.fieldLink RX12 71 "ShortEnoughModel" "first" "[I") zw_X12_range_1116) (fun _ h9 => h9) rfl dX12_range_31 ?_
        refine lv_iload_n hx hb dX12_range_34 rfl (lv_at hl 0 rfl) ?_
        obtain ⟨h_11, hfn⟩ := zg_s hfn
        refine va_iald hx hb hK hP 2 1 rfl rfl h_11 dX12_range_35 ?_
        obtain ⟨o_12, hqo_12, hfn⟩ := zb_s hfn
        refine zcVb (ci := 12) (rest := [.int s_6.1, .ref (a0 35)]) (pc' := 39) (ws' := [(h0, .inr (12, zO a0 (zI b0 33 (-1)) c0)), zVi (a0 17) k1 2 f1, zVi (a0 20) k2 28 f2, zVi (a0 35) k3 14 s_6.2.2.2, zVi (a0 21) k4 28 f4, zVi (a0 19) k5 28 f5, zVl (a0 31) k6 14 s_6.2.1, zVl (a0 22) k7 28 f7, zVl (a0 23) k8 28 f8, zVl (a0 32) k9 14 s_6.2.2.1]) hP hK hD hS hA ⟨hx, hb, hml, hown, hts⟩ (zf_X12_isGreatPart l dC dI h0 (f2 s_6.1.toNatClampNeg) a0 (zI b0 33 (-1)) c0 k3 s_6.2.2.2 o_12 hqo_12 H.size) (cwV 1 hts gX12_range_X12_isGreatPart rfl rfl rfl zhd_X12_isGreatPart ⟨Nat.le_of_ble_eq_true rfl, Nat.le_of_ble_eq_true rfl⟩) [0, 3] rfl (of_decide_eq_true rfl) [2] rfl rfl rfl rfl hl.1 rfl (Nat.le_of_ble_eq_true rfl) dX12_range_36 ⟨Nat.le_of_ble_eq_true rfl, Nat.le_of_ble_eq_true rfl⟩ [some 0, none, none, some 1] (of_decide_eq_true rfl) (of_decide_eq_true rfl) rfl rfl rfl (fun H locs hw_15n hP hD hS => ?_)
        obtain ⟨j_16, ej_16, hfn⟩ := zj_g hfn
        have jp_16 : ∀ (s_16 : Int32) (H : Heap) (locs : List Loc) (ls : Array Slot), j_16 s_16 = some o → va_P (dC, dI) vwCl [(h0, .inr (12, zO a0 (zI b0 33 (-1)) c0)), zVi (a0 17) k1 2 f1, zVi (a0 20) k2 28 f2, zVi (a0 35) k3 14 s_6.2.2.2, zVi (a0 21) k4 28 f4, zVi (a0 19) k5 28 f5, zVl (a0 31) k6 14 s_6.2.1, zVl (a0 22) k7 28 f7, zVl (a0 23) k8 28 f8, zVl (a0 32) k9 14 s_6.2.2.1] H → va_D A [(h0, .inr (12, zO a0 (zI b0 33 (-1)) c0)), zVi (a0 17) k1 2 f1, zVi (a0 20) k2 28 f2, zVi (a0 35) k3 14 s_6.2.2.2, zVi (a0 21) k4 28 f4, zVi (a0 19) k5 28 f5, zVl (a0 31) k6 14 s_6.2.1, zVl (a0 22) k7 28 f7, zVl (a0 23) k8 28 f8, zVl (a0 32) k9 14 s_6.2.2.1] → va_S A s.heap H locs → lv_has ls 4 [(3, .int s_6.1), (0, .ref h0), (1, .int p1), (2, .int p2)] → W p l e (headSpec wsX12_range ({ frames := 4, cells := 0, slots := 0, locals := 113 })).room s m ([.ref h0, .int p1, .int p2] : List Value).toArray below meth c H locs 0 0 Q (F0 m 60 ls [.int s_16, .int s_6.1, .ref (a0 35)]) := by
          intro s_16 H locs ls hfn hP hD hS hl
          have hfn := zj_s ej_16 hfn
          obtain ⟨h_17, hfn⟩ := zg_s hfn
          refine va_zast hx hb hK hP hD hS 3 2 rfl rfl h_17 dX12_range_60 (fun H locs hP hD hS => ?_)
          have hP : va_P (dC, dI) vwCl [(h0, .inr (12, zO a0 (zI b0 33 (-1)) c0)), zVi (a0 17) k1 2 f1, zVi (a0 20) k2 28 f2, zVi (a0 35) k3 14 (upd s_6.2.2.2 s_6.1.toNatClampNeg (vp_nar .boolean s_16)), zVi (a0 21) k4 28 f4, zVi (a0 19) k5 28 f5, zVl (a0 31) k6 14 s_6.2.1, zVl (a0 22) k7 28 f7, zVl (a0 23) k8 28 f8, zVl (a0 32) k9 14 s_6.2.2.1] H := hP
          have hD := zDW hD hP rfl
          refine lv_aload_n hx hb dX12_range_61 rfl (lv_at hl 1 rfl) ?_
          refine va_get (D := (dC, dI)) (ci := 12) (v := .ref (a0 35)) (C := RX12) (T := TX12) (N := 67) hx hb hts zn_X12_range_X12 hown hK hP 0 rfl rfl 35 (of_decide_eq_true rfl) (hts (.fieldLink RX12 118 "ShortEnoughModel" "isGreat" "[Z") zw_X12_range_1115) (fun _ h9 => h9) rfl dX12_range_62 ?_
          refine lv_iload_n hx hb dX12_range_65 rfl (lv_at hl 0 rfl) ?_
          refine va_zald hx hb hK hP 3 2 rfl rfl h_17 dX12_range_66 ?_
          refine lv_topi (fun x_18 ex_18 => ?_)
          have hfn := zn_s hfn ex_18
          refine lv_if_eq (tgt := 73) hx hb dX12_range_67 (of_decide_eq_true rfl) (fun c_19 => ?_) (fun c_19 => ?_)
          · have hfn := (if_pos c_19).symm.trans hfn
            refine lv_aload_n hx hb dX12_range_73 rfl (lv_at hl 1 rfl) ?_
            refine lv_iload_n hx hb dX12_range_74 rfl (lv_at hl 0 rfl) ?_
            obtain ⟨o_20, hqo_20, hfn⟩ := zb_s hfn
            refine zcVv (ci := 12) (rest := []) (pc' := 78) (ws' := [(h0, .inr (12, zO a0 (zI b0 33 (-1)) c0)), zVi (a0 17) k1 2 f1, zVi (a0 20) k2 28 f2, zVi (a0 35) k3 14 (upd s_6.2.2.2 s_6.1.toNatClampNeg (vp_nar .boolean s_16)), zVi (a0 21) k4 28 f4, zVi (a0 19) k5 28 f5, zVl (a0 31) k6 14 o_20.1, zVl (a0 22) k7 28 f7, zVl (a0 23) k8 28 f8, zVl (a0 32) k9 14 o_20.2]) hP hK hD hS hA ⟨hx, hb, hml, hown, hts⟩ (zf_X12_laysRange l dC dI h0 s_6.1 a0 (zI b0 33 (-1)) c0 k5 f5 k2 f2 k4 f4 k6 s_6.2.1 k7 f7 k8 f8 k9 s_6.2.2.1 o_20 hqo_20 H.size) (cwV 1 hts gX12_range_X12_laysRange rfl rfl rfl zhd_X12_laysRange ⟨Nat.le_of_ble_eq_true rfl, Nat.le_of_ble_eq_true rfl⟩) [0, 5, 2, 4, 6, 7, 8, 9] rfl (of_decide_eq_true rfl) [4, 1, 3, 5, 6, 7, 8] rfl rfl rfl rfl hl.1 rfl (Nat.le_of_ble_eq_true rfl) dX12_range_75 ⟨Nat.le_of_ble_eq_true rfl, Nat.le_of_ble_eq_true rfl⟩ [some 0, none, some 2, none, some 3, some 1, some 4, some 5, some 6, some 7] (of_decide_eq_true rfl) (of_decide_eq_true rfl) rfl rfl rfl (fun H locs hP hD hS => ?_)
            refine lv_aload_n hx hb dX12_range_78 rfl (lv_at hl 1 rfl) ?_
            refine va_get (D := (dC, dI)) (ci := 12) (v := .ref (a0 35)) (C := RX12) (T := TX12) (N := 67) hx hb hts zn_X12_range_X12 hown hK hP 0 rfl rfl 35 (of_decide_eq_true rfl) (hts (.fieldLink RX12 118 "ShortEnoughModel" "isGreat" "[Z") zw_X12_range_1115) (fun _ h9 => h9) rfl dX12_range_79 ?_
            refine lv_iload_n hx hb dX12_range_82 rfl (lv_at hl 0 rfl) ?_
            refine lv_aload_n hx hb dX12_range_83 rfl (lv_at hl 1 rfl) ?_
            refine lv_iload_n hx hb dX12_range_84 rfl (lv_at hl 0 rfl) ?_
            obtain ⟨o_24, hqo_24, hfn⟩ := zb_s hfn
            refine zcVl (ci := 12) (rest := [.int s_6.1, .ref (a0 35)]) (pc' := 88) (ws' := [(h0, .inr (12, zO a0 (zI b0 33 (-1)) c0)), zVi (a0 17) k1 2 f1, zVi (a0 20) k2 28 f2, zVi (a0 35) k3 14 (upd s_6.2.2.2 s_6.1.toNatClampNeg (vp_nar .boolean s_16)), zVi (a0 21) k4 28 f4, zVi (a0 19) k5 28 f5, zVl (a0 31) k6 14 o_20.1, zVl (a0 22) k7 28 f7, zVl (a0 23) k8 28 f8, zVl (a0 32) k9 14 o_20.2]) hP hK hD hS hA ⟨hx, hb, hml, hown, hts⟩ (zf_X12_mostOf l dC dI h0 s_6.1 a0 (zI b0 33 (-1)) c0 k6 o_20.1 k9 o_20.2 o_24 hqo_24 H.size) (cwV 1 hts gX12_range_X12_mostOf rfl rfl rfl zhd_X12_mostOf ⟨Nat.le_of_ble_eq_true rfl, Nat.le_of_ble_eq_true rfl⟩) [0, 6, 9] rfl (of_decide_eq_true rfl) [5, 8] rfl rfl rfl rfl hl.1 rfl (Nat.le_of_ble_eq_true rfl) dX12_range_85 ⟨Nat.le_of_ble_eq_true rfl, Nat.le_of_ble_eq_true rfl⟩ [some 0, none, none, none, none, none, some 1, none, none, some 2] (of_decide_eq_true rfl) (of_decide_eq_true rfl) rfl rfl rfl (fun H locs hP hD hS => ?_)
            refine lv_ldc2 (v := 1000000000) hx hb hown (hts (.constantLong RX12 294 (1000000000)) zw_X12_range_1118) dX12_range_88 ?_
            refine W.lcmp hx hb dX12_range_91 ?_
            refine lv_if_le (tgt := 99) hx hb dX12_range_92 (of_decide_eq_true rfl) (fun c_28 => ?_) (fun c_28 => ?_)
            · have hfn := (if_pos c_28).symm.trans hfn
              refine lv_iconst (v := 0) hx hb dX12_range_99 zci_0 ?_
              refine va_zast hx hb hK hP hD hS 3 2 rfl rfl h_17 dX12_range_100 (fun H locs hP hD hS => ?_)
              obtain ⟨g_29, eg_29⟩ : ∃ g : Nat → Int32, g = (upd (upd s_6.2.2.2 s_6.1.toNatClampNeg (vp_nar .boolean s_16)) s_6.1.toNatClampNeg (vp_nar .boolean 0)) := ⟨_, rfl⟩
              have hfn := zn_s hfn eg_29
              have hP : va_P (dC, dI) vwCl [(h0, .inr (12, zO a0 (zI b0 33 (-1)) c0)), zVi (a0 17) k1 2 f1, zVi (a0 20) k2 28 f2, zVi (a0 35) k3 14 g_29, zVi (a0 21) k4 28 f4, zVi (a0 19) k5 28 f5, zVl (a0 31) k6 14 o_20.1, zVl (a0 22) k7 28 f7, zVl (a0 23) k8 28 f8, zVl (a0 32) k9 14 o_20.2] H := by rw [eg_29]; exact hP
              have hD : va_D A [(h0, .inr (12, zO a0 (zI b0 33 (-1)) c0)), zVi (a0 17) k1 2 f1, zVi (a0 20) k2 28 f2, zVi (a0 35) k3 14 g_29, zVi (a0 21) k4 28 f4, zVi (a0 19) k5 28 f5, zVl (a0 31) k6 14 o_20.1, zVl (a0 22) k7 28 f7, zVl (a0 23) k8 28 f8, zVl (a0 32) k9 14 o_20.2] := by rw [eg_29]; exact hD
              refine lv_iinc (v := (s_6.1 + 1)) (lv' := [(3, .int (s_6.1 + 1)), (0, .ref h0), (1, .int p1), (2, .int p2)]) hx hb dX12_range_101 hl (k := 0) rfl rfl (of_decide_eq_true rfl) rfl (fun ls hl => ?_)
              refine lv_goto (tgt := 19) hx hb dX12_range_104 (of_decide_eq_true rfl) ?_
              exact ih_6 ((s_6.1 + 1), o_20.1, o_20.2, g_29) H locs ls hfn hP hD hS (lv_sub hl [0, 1, 2, 3] rfl)
            have hfn := (if_neg c_28).symm.trans hfn
            refine lv_iconst (v := 1) hx hb dX12_range_95 zci_1 ?_
            refine lv_goto (tgt := 100) hx hb dX12_range_96 (of_decide_eq_true rfl) ?_
            refine va_zast hx hb hK hP hD hS 3 2 rfl rfl h_17 dX12_range_100 (fun H locs hP hD hS => ?_)
            obtain ⟨g_30, eg_30⟩ : ∃ g : Nat → Int32, g = (upd (upd s_6.2.2.2 s_6.1.toNatClampNeg (vp_nar .boolean s_16)) s_6.1.toNatClampNeg (vp_nar .boolean 1)) := ⟨_, rfl⟩
            have hfn := zn_s hfn eg_30
            have hP : va_P (dC, dI) vwCl [(h0, .inr (12, zO a0 (zI b0 33 (-1)) c0)), zVi (a0 17) k1 2 f1, zVi (a0 20) k2 28 f2, zVi (a0 35) k3 14 g_30, zVi (a0 21) k4 28 f4, zVi (a0 19) k5 28 f5, zVl (a0 31) k6 14 o_20.1, zVl (a0 22) k7 28 f7, zVl (a0 23) k8 28 f8, zVl (a0 32) k9 14 o_20.2] H := by rw [eg_30]; exact hP
            have hD : va_D A [(h0, .inr (12, zO a0 (zI b0 33 (-1)) c0)), zVi (a0 17) k1 2 f1, zVi (a0 20) k2 28 f2, zVi (a0 35) k3 14 g_30, zVi (a0 21) k4 28 f4, zVi (a0 19) k5 28 f5, zVl (a0 31) k6 14 o_20.1, zVl (a0 22) k7 28 f7, zVl (a0 23) k8 28 f8, zVl (a0 32) k9 14 o_20.2] := by rw [eg_30]; exact hD
            refine lv_iinc (v := (s_6.1 + 1)) (lv' := [(3, .int (s_6.1 + 1)), (0, .ref h0), (1, .int p1), (2, .int p2)]) hx hb dX12_range_101 hl (k := 0) rfl rfl (of_decide_eq_true rfl) rfl (fun ls hl => ?_)
            refine lv_goto (tgt := 19) hx hb dX12_range_104 (of_decide_eq_true rfl) ?_
            exact ih_6 ((s_6.1 + 1), o_20.1, o_20.2, g_30) H locs ls hfn hP hD hS (lv_sub hl [0, 1, 2, 3] rfl)
          have hfn := (if_neg c_19).symm.trans hfn
          refine lv_goto (tgt := 101) hx hb dX12_range_70 (of_decide_eq_true rfl) ?_
          refine lv_iinc (v := (s_6.1 + 1)) (lv' := [(3, .int (s_6.1 + 1)), (0, .ref h0), (1, .int p1), (2, .int p2)]) hx hb dX12_range_101 hl (k := 0) rfl rfl (of_decide_eq_true rfl) rfl (fun ls hl => ?_)
          refine lv_goto (tgt := 19) hx hb dX12_range_104 (of_decide_eq_true rfl) ?_
          exact ih_6 ((s_6.1 + 1), s_6.2.1, s_6.2.2.1, (upd s_6.2.2.2 s_6.1.toNatClampNeg (vp_nar .boolean s_16))) H locs ls hfn hP hD hS (lv_sub hl [0, 1, 2, 3] rfl)
        obtain ⟨j_31, ej_31, hfn⟩ := zj_g hfn
        have jp_31 : ∀ (s_31 : Unit) (H : Heap) (locs : List Loc) (ls : Array Slot), j_31 s_31 = some o → va_P (dC, dI) vwCl [(h0, .inr (12, zO a0 (zI b0 33 (-1)) c0)), zVi (a0 17) k1 2 f1, zVi (a0 20) k2 28 f2, zVi (a0 35) k3 14 s_6.2.2.2, zVi (a0 21) k4 28 f4, zVi (a0 19) k5 28 f5, zVl (a0 31) k6 14 s_6.2.1, zVl (a0 22) k7 28 f7, zVl (a0 23) k8 28 f8, zVl (a0 32) k9 14 s_6.2.2.1] H → va_D A [(h0, .inr (12, zO a0 (zI b0 33 (-1)) c0)), zVi (a0 17) k1 2 f1, zVi (a0 20) k2 28 f2, zVi (a0 35) k3 14 s_6.2.2.2, zVi (a0 21) k4 28 f4, zVi (a0 19) k5 28 f5, zVl (a0 31) k6 14 s_6.2.1, zVl (a0 22) k7 28 f7, zVl (a0 23) k8 28 f8, zVl (a0 32) k9 14 s_6.2.2.1] → va_S A s.heap H locs → lv_has ls 4 [(3, .int s_6.1), (0, .ref h0), (1, .int p1), (2, .int p2)] → W p l e (headSpec wsX12_range ({ frames := 4, cells := 0, slots := 0, locals := 113 })).room s m ([.ref h0, .int p1, .int p2] : List Value).toArray below meth c H locs 0 0 Q (F0 m 55 ls [.int s_6.1, .ref (a0 35)]) := by
          intro s_31 H locs ls hfn hP hD hS hl
          have hfn := zj_s ej_31 hfn
          refine lv_iconst (v := 1) hx hb dX12_range_55 zci_1 ?_
          refine lv_goto (tgt := 60) hx hb dX12_range_56 (of_decide_eq_true rfl) ?_
          exact jp_16 1 H locs ls hfn hP hD hS (lv_sub hl [0, 1, 2, 3] rfl)
        refine lv_if_ne (tgt := 55) hx hb dX12_range_39 (of_decide_eq_true rfl) (fun c_32 => ?_) (fun c_32 => ?_)
        · have hfn := (if_neg c_32).symm.trans hfn
          exact jp_31 () H locs ls hfn hP hD hS (lv_sub hl [0, 1, 2, 3] rfl)
        have hfn := (if_pos c_32).symm.trans hfn
        refine lv_aload_n hx hb dX12_range_42 rfl (lv_at hl 1 rfl) ?_
        refine lv_aload_n hx hb dX12_range_43 rfl (lv_at hl 1 rfl) ?_
        refine va_get (D := (dC, dI)) (ci := 12) (v := .ref (a0 21)) (C := RX12) (T := TX12) (N := 67) hx hb hts zn_X12_range_X12 hown hK hP 0 rfl rfl 21 (of_decide_eq_true rfl) (hts (.fieldLink RX12 74 "ShortEnoughModel" "second" "[I") zw_X12_range_1117) (fun _ h9 => h9) rfl dX12_range_44 ?_
        refine lv_iload_n hx hb dX12_range_47 rfl (lv_at hl 0 rfl) ?_
        refine va_iald hx hb hK hP 4 3 rfl rfl h_11 dX12_range_48 ?_
        obtain ⟨o_33, hqo_33, hfn⟩ := zb_s hfn
        refine zcVb (ci := 12) (rest := [.int s_6.1, .ref (a0 35)]) (pc' := 52) (ws' := [(h0, .inr (12, zO a0 (zI b0 33 (-1)) c0)), zVi (a0 17) k1 2 f1, zVi (a0 20) k2 28 f2, zVi (a0 35) k3 14 s_6.2.2.2, zVi (a0 21) k4 28 f4, zVi (a0 19) k5 28 f5, zVl (a0 31) k6 14 s_6.2.1, zVl (a0 22) k7 28 f7, zVl (a0 23) k8 28 f8, zVl (a0 32) k9 14 s_6.2.2.1]) hP hK hD hS hA ⟨hx, hb, hml, hown, hts⟩ (zf_X12_isGreatPart l dC dI h0 (f4 s_6.1.toNatClampNeg) a0 (zI b0 33 (-1)) c0 k3 s_6.2.2.2 o_33 hqo_33 H.size) (cwV 1 hts gX12_range_X12_isGreatPart rfl rfl rfl zhd_X12_isGreatPart ⟨Nat.le_of_ble_eq_true rfl, Nat.le_of_ble_eq_true rfl⟩) [0, 3] rfl (of_decide_eq_true rfl) [2] rfl rfl rfl rfl hl.1 rfl (Nat.le_of_ble_eq_true rfl) dX12_range_49 ⟨Nat.le_of_ble_eq_true rfl, Nat.le_of_ble_eq_true rfl⟩ [some 0, none, none, some 1] (of_decide_eq_true rfl) (of_decide_eq_true rfl) rfl rfl rfl (fun H locs hw_36n hP hD hS => ?_)
        refine lv_if_eq (tgt := 59) hx hb dX12_range_52 (of_decide_eq_true rfl) (fun c_37 => ?_) (fun c_37 => ?_)
        · have hfn := (if_pos c_37).symm.trans hfn
          refine lv_iconst (v := 0) hx hb dX12_range_59 zci_0 ?_
          exact jp_16 0 H locs ls hfn hP hD hS (lv_sub hl [0, 1, 2, 3] rfl)
        have hfn := (if_neg c_37).symm.trans hfn
        exact jp_31 () H locs ls hfn hP hD hS (lv_sub hl [0, 1, 2, 3] rfl)
    exact lp_6 _ (0, f6, f9, f3) H locs ls hfn hP hD hS (lv_sub hl [0, 1, 2, 3] rfl)
  have hfn := (if_pos c_5).symm.trans hfn
  refine lv_ldc2 (v := (-1000000000000000)) hx hb hown (hts (.constantLong RX12 381 (-1000000000000000)) zw_X12_range_1121) dX12_range_8 ?_
  have ho := Option.some.inj hfn
  subst ho
  exact zrl hx hb hr hK hP hD hS hQ rfl hlocks dX12_range_11
theorem zn_X12_uses_X12 : ∀ w ∈ wsX120, w ∈ wsX12_uses := fun _ h => List.mem_cons_of_mem _ (List.mem_append_right _ h)
theorem zw_X12_uses_1123 : Cond.fieldLink RX12 62 "ShortEnoughModel" "numbers" "[I" ∈ wsX12_uses := List.mem_of_getElem? (i := 1) (by decide +kernel)
theorem zw_X12_uses_1124 : Cond.fieldLink RX12 71 "ShortEnoughModel" "first" "[I" ∈ wsX12_uses := List.mem_of_getElem? (i := 2) (by decide +kernel)
theorem zw_X12_uses_1125 : Cond.fieldLink RX12 74 "ShortEnoughModel" "second" "[I" ∈ wsX12_uses := List.mem_of_getElem? (i := 3) (by decide +kernel)
set_option maxHeartbeats 4000000 in
set_option maxRecDepth 100000 in
theorem zf_X12_uses (l : Launch) (dC : Nat → ClassId) (dI : Nat → Nat → Nat) (h0 : Nat) (p1 : Int32) (a0 : Nat → Nat) (b0 : Nat → Int32) (c0 : Nat → Int64) (k1 : Nat) (f1 : Nat → Int32) (k2 : Nat) (f2 : Nat → Int32) (k3 : Nat) (f3 : Nat → Int32) (o : Int32) (hfn : fn_X12_uses p1 f1 f2 f3 = some o) (sz : Nat) : zMi l yX12_uses wsX12_uses ({ frames := 2, cells := 0, slots := 0, locals := 46 }) (dC, dI) vwCl [.ref h0, .int p1] [(h0, .inr (12, zO a0 b0 c0)), zVi (a0 17) k1 2 f1, zVi (a0 20) k2 28 f2, zVi (a0 21) k3 28 f3] [(k1, .int), (k2, .int), (k3, .int)] (fun r _ => r = o) [(h0, .inr (12, zO a0 b0 c0)), zVi (a0 17) k1 2 f1, zVi (a0 20) k2 28 f2, zVi (a0 21) k3 28 f3] [(k1, .int), (k2, .int), (k3, .int)] sz := by
  refine zgoi (cc := cX12_uses) (maxL := 5) (ret := (some .int)) (C0 := RX12) (lv0 := [(0, .ref h0), (1, .int p1)]) zpl_X12 rfl rfl rfl (Nat.le_of_ble_eq_true rfl) ?_
  intro p e s m below meth c A ls Q hx hb hr hts hown hlocks hml hP hK hD hA hS hl hQ
  unfold fn_X12_uses at hfn
  refine lv_aload_n hx hb dX12_uses_0 rfl (lv_at hl 0 rfl) ?_
  refine lv_iload_n hx hb dX12_uses_1 rfl (lv_at hl 1 rfl) ?_
  obtain ⟨o_1, hqo_1, hfn⟩ := zb_s hfn
  refine zcVb (ci := 12) (rest := []) (pc' := 5) (ws' := [(h0, .inr (12, zO a0 b0 c0)), zVi (a0 17) k1 2 f1, zVi (a0 20) k2 28 f2, zVi (a0 21) k3 28 f3]) hP hK hD hS hA ⟨hx, hb, hml, hown, hts⟩ (zf_X12_isNumber l dC dI h0 p1 a0 b0 c0 k1 f1 o_1 hqo_1 s.heap.size) (cwV 1 hts gX12_uses_X12_isNumber rfl rfl rfl zhd_X12_isNumber ⟨Nat.le_of_ble_eq_true rfl, Nat.le_of_ble_eq_true rfl⟩) [0, 1] rfl (of_decide_eq_true rfl) [0] rfl rfl rfl rfl hl.1 rfl (Nat.le_of_ble_eq_true rfl) dX12_uses_2 ⟨Nat.le_of_ble_eq_true rfl, Nat.le_of_ble_eq_true rfl⟩ [some 0, some 1] (of_decide_eq_true rfl) (of_decide_eq_true rfl) rfl rfl rfl (fun H locs hw_4n hP hD hS => ?_)
  refine lv_if_ne (tgt := 10) hx hb dX12_uses_5 (of_decide_eq_true rfl) (fun c_5 => ?_) (fun c_5 => ?_)
  · have hfn := (if_neg c_5).symm.trans hfn
    refine lv_iconst (v := 1) hx hb dX12_uses_10 zci_1 ?_
    refine lv_iload_n hx hb dX12_uses_11 rfl (lv_at hl 1 rfl) ?_
    refine lv_ishl hx hb dX12_uses_12 ?_
    refine lv_istore_n (lv' := [(2, .int (1 <<< (p1 &&& 31))), (0, .ref h0), (1, .int p1)]) hx hb dX12_uses_13 rfl hl (of_decide_eq_true rfl) rfl (fun ls hl => ?_)
    refine lv_iload_n hx hb dX12_uses_14 rfl (lv_at hl 2 rfl) ?_
    refine lv_iconst (v := 1) hx hb dX12_uses_15 zci_1 ?_
    refine lv_iadd hx hb dX12_uses_16 ?_
    refine lv_istore_n (lv' := [(3, .int (p1 + 1)), (2, .int (1 <<< (p1 &&& 31))), (0, .ref h0), (1, .int p1)]) hx hb dX12_uses_17 rfl hl (of_decide_eq_true rfl) rfl (fun ls hl => ?_)
    obtain ⟨bd_6, ebd_6, hfn⟩ := zl_g hfn
    have lp_6 : ∀ (n : Nat) (s_6 : Int32 × Int32) (H : Heap) (locs : List Loc) (ls : Array Slot), zl bd_6 n s_6 = some o → va_P (dC, dI) vwCl [(h0, .inr (12, zO a0 b0 c0)), zVi (a0 17) k1 2 f1, zVi (a0 20) k2 28 f2, zVi (a0 21) k3 28 f3] H → va_D A [(h0, .inr (12, zO a0 b0 c0)), zVi (a0 17) k1 2 f1, zVi (a0 20) k2 28 f2, zVi (a0 21) k3 28 f3] → va_S A s.heap H locs → lv_has ls 5 [(3, .int s_6.2), (2, .int s_6.1), (0, .ref h0), (1, .int p1)] → W p l e (headSpec wsX12_uses ({ frames := 2, cells := 0, slots := 0, locals := 46 })).room s m ([.ref h0, .int p1] : List Value).toArray below meth c H locs 0 0 Q (F0 m 18 ls []) := by
      intro n
      induction n with
      | zero => exact fun _ _ _ _ hfn => (zl_0 hfn).elim
      | succ n ih_6 =>
        intro s_6 H locs ls hfn hP hD hS hl
        have hfn := zl_s ebd_6 hfn
        refine lv_iload_n hx hb dX12_uses_18 rfl (lv_at hl 0 rfl) ?_
        refine lv_aload_n hx hb dX12_uses_19 rfl (lv_at hl 2 rfl) ?_
        refine va_get (D := (dC, dI)) (ci := 12) (v := .ref (a0 17)) (C := RX12) (T := TX12) (N := 67) hx hb hts zn_X12_uses_X12 hown hK hP 0 rfl rfl 17 (of_decide_eq_true rfl) (hts (.fieldLink RX12 62 "ShortEnoughModel" "numbers" "[I") zw_X12_uses_1123) (fun _ h9 => h9) rfl dX12_uses_20 ?_
        refine lv_iconst (v := 0) hx hb dX12_uses_23 zci_0 ?_
        refine va_iald hx hb hK hP 1 0 rfl rfl (zv_in (by decide +kernel)) dX12_uses_24 ?_
        refine lv_icmp_ge (tgt := 104) hx hb dX12_uses_25 (of_decide_eq_true rfl) (fun c_7 => ?_) (fun c_7 => ?_)
        · have hfn := (if_pos c_7).symm.trans hfn
          refine lv_iload_n hx hb dX12_uses_104 rfl (lv_at hl 1 rfl) ?_
          refine lv_iconst (v := 1) hx hb dX12_uses_105 zci_1 ?_
          refine lv_iload_n hx hb dX12_uses_106 rfl (lv_at hl 3 rfl) ?_
          refine lv_ishl hx hb dX12_uses_107 ?_
          refine lv_iconst (v := (-1)) hx hb dX12_uses_108 zci_m1 ?_
          refine lv_ixor hx hb dX12_uses_109 ?_
          refine lv_iand hx hb dX12_uses_110 ?_
          have ho := Option.some.inj hfn
          subst ho
          exact zri hx hb hr hK hP hD hS hQ rfl hlocks dX12_uses_111
        have hfn := (if_neg c_7).symm.trans hfn
        refine lv_aload_n hx hb dX12_uses_28 rfl (lv_at hl 2 rfl) ?_
        refine va_get (D := (dC, dI)) (ci := 12) (v := .ref (a0 20)) (C := RX12) (T := TX12) (N := 67) hx hb hts zn_X12_uses_X12 hown hK hP 0 rfl rfl 20 (of_decide_eq_true rfl) (hts (.fieldLink RX12 71 "ShortEnoughModel" "first" "[I") zw_X12_uses_1124) (fun _ h9 => h9) rfl dX12_uses_29 ?_
        refine lv_iload_n hx hb dX12_uses_32 rfl (lv_at hl 0 rfl) ?_
        obtain ⟨h_8, hfn⟩ := zg_s hfn
        refine va_iald hx hb hK hP 2 1 rfl rfl h_8 dX12_uses_33 ?_
        refine lv_iconst (v := (-1)) hx hb dX12_uses_34 zci_m1 ?_
        obtain ⟨j_9, ej_9, hfn⟩ := zj_g hfn
        have jp_9 : ∀ (s_9 : Int32) (H : Heap) (locs : List Loc) (ls : Array Slot), j_9 s_9 = some o → va_P (dC, dI) vwCl [(h0, .inr (12, zO a0 b0 c0)), zVi (a0 17) k1 2 f1, zVi (a0 20) k2 28 f2, zVi (a0 21) k3 28 f3] H → va_D A [(h0, .inr (12, zO a0 b0 c0)), zVi (a0 17) k1 2 f1, zVi (a0 20) k2 28 f2, zVi (a0 21) k3 28 f3] → va_S A s.heap H locs → lv_has ls 5 [(3, .int s_6.2), (2, .int s_6.1), (0, .ref h0), (1, .int p1)] → W p l e (headSpec wsX12_uses ({ frames := 2, cells := 0, slots := 0, locals := 46 })).room s m ([.ref h0, .int p1] : List Value).toArray below meth c H locs 0 0 Q (F0 m 81 ls [.int s_9]) := by
          intro s_9 H locs ls hfn hP hD hS hl
          have hfn := zj_s ej_9 hfn
          refine lv_istore (lv' := [(4, .int s_9), (3, .int s_6.2), (2, .int s_6.1), (0, .ref h0), (1, .int p1)]) hx hb dX12_uses_81 hl (of_decide_eq_true rfl) rfl (fun ls hl => ?_)
          refine lv_iload_n hx hb dX12_uses_83 rfl (lv_at hl 2 rfl) ?_
          refine lv_iload hx hb dX12_uses_84 (lv_at hl 0 rfl) ?_
          refine lv_if_eq (tgt := 95) hx hb dX12_uses_86 (of_decide_eq_true rfl) (fun c_10 => ?_) (fun c_10 => ?_)
          · have hfn := (if_pos c_10).symm.trans hfn
            refine lv_iconst (v := 0) hx hb dX12_uses_95 zci_0 ?_
            refine lv_ior hx hb dX12_uses_96 ?_
            refine lv_istore_n (lv' := [(2, .int (s_6.1 ||| 0)), (4, .int s_9), (3, .int s_6.2), (0, .ref h0), (1, .int p1)]) hx hb dX12_uses_97 rfl hl (of_decide_eq_true rfl) rfl (fun ls hl => ?_)
            refine lv_iinc (v := (s_6.2 + 1)) (lv' := [(3, .int (s_6.2 + 1)), (2, .int (s_6.1 ||| 0)), (4, .int s_9), (0, .ref h0), (1, .int p1)]) hx hb dX12_uses_98 hl (k := 2) rfl rfl (of_decide_eq_true rfl) rfl (fun ls hl => ?_)
            refine lv_goto (tgt := 18) hx hb dX12_uses_101 (of_decide_eq_true rfl) ?_
            exact ih_6 ((s_6.1 ||| 0), (s_6.2 + 1)) H locs ls hfn hP hD hS (lv_sub hl [0, 1, 3, 4] rfl)
          have hfn := (if_neg c_10).symm.trans hfn
          refine lv_iconst (v := 1) hx hb dX12_uses_89 zci_1 ?_
          refine lv_iload_n hx hb dX12_uses_90 rfl (lv_at hl 1 rfl) ?_
          refine lv_ishl hx hb dX12_uses_91 ?_
          refine lv_goto (tgt := 96) hx hb dX12_uses_92 (of_decide_eq_true rfl) ?_
          refine lv_ior hx hb dX12_uses_96 ?_
          refine lv_istore_n (lv' := [(2, .int (s_6.1 ||| (1 <<< (s_6.2 &&& 31)))), (4, .int s_9), (3, .int s_6.2), (0, .ref h0), (1, .int p1)]) hx hb dX12_uses_97 rfl hl (of_decide_eq_true rfl) rfl (fun ls hl => ?_)
          refine lv_iinc (v := (s_6.2 + 1)) (lv' := [(3, .int (s_6.2 + 1)), (2, .int (s_6.1 ||| (1 <<< (s_6.2 &&& 31)))), (4, .int s_9), (0, .ref h0), (1, .int p1)]) hx hb dX12_uses_98 hl (k := 2) rfl rfl (of_decide_eq_true rfl) rfl (fun ls hl => ?_)
          refine lv_goto (tgt := 18) hx hb dX12_uses_101 (of_decide_eq_true rfl) ?_
          exact ih_6 ((s_6.1 ||| (1 <<< (s_6.2 &&& 31))), (s_6.2 + 1)) H locs ls hfn hP hD hS (lv_sub hl [0, 1, 3, 4] rfl)
        obtain ⟨j_11, ej_11, hfn⟩ := zj_g hfn
        have jp_11 : ∀ (s_11 : Unit) (H : Heap) (locs : List Loc) (ls : Array Slot), j_11 s_11 = some o → va_P (dC, dI) vwCl [(h0, .inr (12, zO a0 b0 c0)), zVi (a0 17) k1 2 f1, zVi (a0 20) k2 28 f2, zVi (a0 21) k3 28 f3] H → va_D A [(h0, .inr (12, zO a0 b0 c0)), zVi (a0 17) k1 2 f1, zVi (a0 20) k2 28 f2, zVi (a0 21) k3 28 f3] → va_S A s.heap H locs → lv_has ls 5 [(3, .int s_6.2), (2, .int s_6.1), (0, .ref h0), (1, .int p1)] → W p l e (headSpec wsX12_uses ({ frames := 2, cells := 0, slots := 0, locals := 46 })).room s m ([.ref h0, .int p1] : List Value).toArray below meth c H locs 0 0 Q (F0 m 52 ls []) := by
          intro s_11 H locs ls hfn hP hD hS hl
          have hfn := zj_s ej_11 hfn
          refine lv_aload_n hx hb dX12_uses_52 rfl (lv_at hl 2 rfl) ?_
          refine va_get (D := (dC, dI)) (ci := 12) (v := .ref (a0 21)) (C := RX12) (T := TX12) (N := 67) hx hb hts zn_X12_uses_X12 hown hK hP 0 rfl rfl 21 (of_decide_eq_true rfl) (hts (.fieldLink RX12 74 "ShortEnoughModel" "second" "[I") zw_X12_uses_1125) (fun _ h9 => h9) rfl dX12_uses_53 ?_
          refine lv_iload_n hx hb dX12_uses_56 rfl (lv_at hl 0 rfl) ?_
          obtain ⟨h_12, hfn⟩ := zg_s hfn
          refine va_iald hx hb hK hP 3 2 rfl rfl h_12 dX12_uses_57 ?_
          refine lv_iconst (v := (-1)) hx hb dX12_uses_58 zci_m1 ?_
          obtain ⟨j_13, ej_13, hfn⟩ := zj_g hfn
          have jp_13 : ∀ (s_13 : Unit) (H : Heap) (locs : List Loc) (ls : Array Slot), j_13 s_13 = some o → va_P (dC, dI) vwCl [(h0, .inr (12, zO a0 b0 c0)), zVi (a0 17) k1 2 f1, zVi (a0 20) k2 28 f2, zVi (a0 21) k3 28 f3] H → va_D A [(h0, .inr (12, zO a0 b0 c0)), zVi (a0 17) k1 2 f1, zVi (a0 20) k2 28 f2, zVi (a0 21) k3 28 f3] → va_S A s.heap H locs → lv_has ls 5 [(3, .int s_6.2), (2, .int s_6.1), (0, .ref h0), (1, .int p1)] → W p l e (headSpec wsX12_uses ({ frames := 2, cells := 0, slots := 0, locals := 46 })).room s m ([.ref h0, .int p1] : List Value).toArray below meth c H locs 0 0 Q (F0 m 80 ls []) := by
            intro s_13 H locs ls hfn hP hD hS hl
            have hfn := zj_s ej_13 hfn
            refine lv_iconst (v := 0) hx hb dX12_uses_80 zci_0 ?_
            exact jp_9 0 H locs ls hfn hP hD hS (lv_sub hl [0, 1, 2, 3] rfl)
          refine lv_icmp_eq (tgt := 80) hx hb dX12_uses_59 (of_decide_eq_true rfl) (fun c_14 => ?_) (fun c_14 => ?_)
          · have hfn := (if_pos c_14).symm.trans hfn
            exact jp_13 () H locs ls hfn hP hD hS (lv_sub hl [0, 1, 2, 3] rfl)
          have hfn := (if_neg c_14).symm.trans hfn
          refine lv_iload_n hx hb dX12_uses_62 rfl (lv_at hl 1 rfl) ?_
          refine lv_aload_n hx hb dX12_uses_63 rfl (lv_at hl 2 rfl) ?_
          refine va_get (D := (dC, dI)) (ci := 12) (v := .ref (a0 21)) (C := RX12) (T := TX12) (N := 67) hx hb hts zn_X12_uses_X12 hown hK hP 0 rfl rfl 21 (of_decide_eq_true rfl) (hts (.fieldLink RX12 74 "ShortEnoughModel" "second" "[I") zw_X12_uses_1125) (fun _ h9 => h9) rfl dX12_uses_64 ?_
          refine lv_iload_n hx hb dX12_uses_67 rfl (lv_at hl 0 rfl) ?_
          refine va_iald hx hb hK hP 3 2 rfl rfl h_12 dX12_uses_68 ?_
          refine lv_ishr hx hb dX12_uses_69 ?_
          refine lv_iconst (v := 1) hx hb dX12_uses_70 zci_1 ?_
          refine lv_iand hx hb dX12_uses_71 ?_
          refine lv_iconst (v := 1) hx hb dX12_uses_72 zci_1 ?_
          refine lv_icmp_ne (tgt := 80) hx hb dX12_uses_73 (of_decide_eq_true rfl) (fun c_15 => ?_) (fun c_15 => ?_)
          · have hfn := (if_neg c_15).symm.trans hfn
            exact jp_13 () H locs ls hfn hP hD hS (lv_sub hl [0, 1, 2, 3] rfl)
          have hfn := (if_pos c_15).symm.trans hfn
          refine lv_iconst (v := 1) hx hb dX12_uses_76 zci_1 ?_
          refine lv_goto (tgt := 81) hx hb dX12_uses_77 (of_decide_eq_true rfl) ?_
          exact jp_9 1 H locs ls hfn hP hD hS (lv_sub hl [0, 1, 2, 3] rfl)
        refine lv_icmp_eq (tgt := 52) hx hb dX12_uses_35 (of_decide_eq_true rfl) (fun c_16 => ?_) (fun c_16 => ?_)
        · have hfn := (if_pos c_16).symm.trans hfn
          exact jp_11 () H locs ls hfn hP hD hS (lv_sub hl [0, 1, 2, 3] rfl)
        have hfn := (if_neg c_16).symm.trans hfn
        refine lv_iload_n hx hb dX12_uses_38 rfl (lv_at hl 1 rfl) ?_
        refine lv_aload_n hx hb dX12_uses_39 rfl (lv_at hl 2 rfl) ?_
        refine va_get (D := (dC, dI)) (ci := 12) (v := .ref (a0 20)) (C := RX12) (T := TX12) (N := 67) hx hb hts zn_X12_uses_X12 hown hK hP 0 rfl rfl 20 (of_decide_eq_true rfl) (hts (.fieldLink RX12 71 "ShortEnoughModel" "first" "[I") zw_X12_uses_1124) (fun _ h9 => h9) rfl dX12_uses_40 ?_
        refine lv_iload_n hx hb dX12_uses_43 rfl (lv_at hl 0 rfl) ?_
        refine va_iald hx hb hK hP 2 1 rfl rfl h_8 dX12_uses_44 ?_
        refine lv_ishr hx hb dX12_uses_45 ?_
        refine lv_iconst (v := 1) hx hb dX12_uses_46 zci_1 ?_
        refine lv_iand hx hb dX12_uses_47 ?_
        refine lv_iconst (v := 1) hx hb dX12_uses_48 zci_1 ?_
        refine lv_icmp_eq (tgt := 76) hx hb dX12_uses_49 (of_decide_eq_true rfl) (fun c_17 => ?_) (fun c_17 => ?_)
        · have hfn := (if_pos c_17).symm.trans hfn
          refine lv_iconst (v := 1) hx hb dX12_uses_76 zci_1 ?_
          refine lv_goto (tgt := 81) hx hb dX12_uses_77 (of_decide_eq_true rfl) ?_
          exact jp_9 1 H locs ls hfn hP hD hS (lv_sub hl [0, 1, 2, 3] rfl)
        have hfn := (if_neg c_17).symm.trans hfn
        exact jp_11 () H locs ls hfn hP hD hS (lv_sub hl [0, 1, 2, 3] rfl)
    exact lp_6 _ ((1 <<< (p1 &&& 31)), (p1 + 1)) H locs ls hfn hP hD hS (lv_sub hl [0, 1, 2, 3] rfl)
  have hfn := (if_pos c_5).symm.trans hfn
  refine lv_iconst (v := (-1)) hx hb dX12_uses_8 zci_m1 ?_
  have ho := Option.some.inj hfn
  subst ho
  exact zri hx hb hr hK hP hD hS hQ rfl hlocks dX12_uses_9
theorem zn_X12_deepOf_X12 : ∀ w ∈ wsX120, w ∈ wsX12_deepOf := fun _ h => List.mem_cons_of_mem _ (List.mem_append_right _ h)
theorem zw_X12_deepOf_1127 : Cond.fieldLink RX12 122 "ShortEnoughModel" "deep" "[I" ∈ wsX12_deepOf := List.mem_of_getElem? (i := 1) (by decide +kernel)
set_option maxHeartbeats 4000000 in
set_option maxRecDepth 100000 in
theorem zf_X12_deepOf (l : Launch) (dC : Nat → ClassId) (dI : Nat → Nat → Nat) (h0 : Nat) (p1 : Int32) (a0 : Nat → Nat) (b0 : Nat → Int32) (c0 : Nat → Int64) (k1 : Nat) (f1 : Nat → Int32) (o : Int32) (hfn : fn_X12_deepOf p1 f1 = some o) (sz : Nat) : zMi l yX12_deepOf wsX12_deepOf ({ frames := 0, cells := 0, slots := 0, locals := 0 }) (dC, dI) vwCl [.ref h0, .int p1] [(h0, .inr (12, zO a0 b0 c0)), zVi (a0 36) k1 14 f1] [(k1, .int)] (fun r _ => r = o) [(h0, .inr (12, zO a0 b0 c0)), zVi (a0 36) k1 14 f1] [(k1, .int)] sz := by
  refine zgoi (cc := cX12_deepOf) (maxL := 2) (ret := (some .int)) (C0 := RX12) (lv0 := [(0, .ref h0), (1, .int p1)]) zpl_X12 rfl rfl rfl (Nat.le_of_ble_eq_true rfl) ?_
  intro p e s m below meth c A ls Q hx hb hr hts hown hlocks hml hP hK hD hA hS hl hQ
  unfold fn_X12_deepOf at hfn
  refine lv_iload_n hx hb dX12_deepOf_0 rfl (lv_at hl 1 rfl) ?_
  refine lv_iconst (v := (-1)) hx hb dX12_deepOf_1 zci_m1 ?_
  refine lv_icmp_ne (tgt := 9) hx hb dX12_deepOf_2 (of_decide_eq_true rfl) (fun c_1 => ?_) (fun c_1 => ?_)
  · have hfn := (if_neg c_1).symm.trans hfn
    refine lv_aload_n hx hb dX12_deepOf_9 rfl (lv_at hl 0 rfl) ?_
    refine va_get (D := (dC, dI)) (ci := 12) (v := .ref (a0 36)) (C := RX12) (T := TX12) (N := 67) hx hb hts zn_X12_deepOf_X12 hown hK hP 0 rfl rfl 36 (of_decide_eq_true rfl) (hts (.fieldLink RX12 122 "ShortEnoughModel" "deep" "[I") zw_X12_deepOf_1127) (fun _ h9 => h9) rfl dX12_deepOf_10 ?_
    refine lv_iload_n hx hb dX12_deepOf_13 rfl (lv_at hl 1 rfl) ?_
    obtain ⟨h_2, hfn⟩ := zg_s hfn
    refine va_iald hx hb hK hP 1 0 rfl rfl h_2 dX12_deepOf_14 ?_
    have ho := Option.some.inj hfn
    subst ho
    exact zri hx hb hr hK hP hD hS hQ rfl hlocks dX12_deepOf_15
  have hfn := (if_pos c_1).symm.trans hfn
  refine lv_iconst (v := 0) hx hb dX12_deepOf_5 zci_0 ?_
  refine lv_goto (tgt := 15) hx hb dX12_deepOf_6 (of_decide_eq_true rfl) ?_
  have ho := Option.some.inj hfn
  subst ho
  exact zri hx hb hr hK hP hD hS hQ rfl hlocks dX12_deepOf_15
theorem zn_X12_depth_X12 : ∀ w ∈ wsX120, w ∈ wsX12_depth := fun _ h => List.mem_cons_of_mem _ (List.mem_append_right _ h)
theorem zw_X12_depth_1129 : Cond.fieldLink RX12 71 "ShortEnoughModel" "first" "[I" ∈ wsX12_depth := List.mem_of_getElem? (i := 1) (by decide +kernel)
theorem zw_X12_depth_1130 : Cond.fieldLink RX12 74 "ShortEnoughModel" "second" "[I" ∈ wsX12_depth := List.mem_of_getElem? (i := 2) (by decide +kernel)
theorem zw_X12_depth_1131 : Cond.fieldLink RX12 122 "ShortEnoughModel" "deep" "[I" ∈ wsX12_depth := List.mem_of_getElem? (i := 3) (by decide +kernel)
theorem zw_X12_depth_1132 : Cond.fieldLink RX12 68 "ShortEnoughModel" "op" "[I" ∈ wsX12_depth := List.mem_of_getElem? (i := 4) (by decide +kernel)
set_option maxHeartbeats 4000000 in
set_option maxRecDepth 100000 in
theorem zf_X12_depth (l : Launch) (dC : Nat → ClassId) (dI : Nat → Nat → Nat) (h0 : Nat) (p1 : Int32) (a0 : Nat → Nat) (b0 : Nat → Int32) (c0 : Nat → Int64) (k1 : Nat) (f1 : Nat → Int32) (k2 : Nat) (f2 : Nat → Int32) (k3 : Nat) (f3 : Nat → Int32) (k4 : Nat) (f4 : Nat → Int32) (k5 : Nat) (f5 : Nat → Int32) (o : Int32 × (Nat → Int32)) (hfn : fn_X12_depth p1 f1 f2 f3 f4 f5 = some o) (sz : Nat) : zMi l yX12_depth wsX12_depth ({ frames := 2, cells := 0, slots := 0, locals := 46 }) (dC, dI) vwCl [.ref h0, .int p1] [(h0, .inr (12, zO a0 b0 c0)), zVi (a0 17) k1 2 f1, zVi (a0 20) k2 28 f2, zVi (a0 36) k3 14 f3, zVi (a0 21) k4 28 f4, zVi (a0 19) k5 28 f5] [(k1, .int), (k2, .int), (k3, .int), (k4, .int), (k5, .int)] (fun r _ => r = o.1) [(h0, .inr (12, zO a0 b0 c0)), zVi (a0 17) k1 2 f1, zVi (a0 20) k2 28 f2, zVi (a0 36) k3 14 o.2, zVi (a0 21) k4 28 f4, zVi (a0 19) k5 28 f5] [(k1, .int), (k2, .int), (k3, .int), (k4, .int), (k5, .int)] sz := by
  refine zgoi (cc := cX12_depth) (maxL := 5) (ret := (some .int)) (C0 := RX12) (lv0 := [(0, .ref h0), (1, .int p1)]) zpl_X12 rfl rfl rfl (Nat.le_of_ble_eq_true rfl) ?_
  intro p e s m below meth c A ls Q hx hb hr hts hown hlocks hml hP hK hD hA hS hl hQ
  unfold fn_X12_depth at hfn
  refine lv_aload_n hx hb dX12_depth_0 rfl (lv_at hl 0 rfl) ?_
  refine lv_iload_n hx hb dX12_depth_1 rfl (lv_at hl 1 rfl) ?_
  obtain ⟨o_1, hqo_1, hfn⟩ := zb_s hfn
  refine zcVb (ci := 12) (rest := []) (pc' := 5) (ws' := [(h0, .inr (12, zO a0 b0 c0)), zVi (a0 17) k1 2 f1, zVi (a0 20) k2 28 f2, zVi (a0 36) k3 14 f3, zVi (a0 21) k4 28 f4, zVi (a0 19) k5 28 f5]) hP hK hD hS hA ⟨hx, hb, hml, hown, hts⟩ (zf_X12_isNumber l dC dI h0 p1 a0 b0 c0 k1 f1 o_1 hqo_1 s.heap.size) (cwV 1 hts gX12_depth_X12_isNumber rfl rfl rfl zhd_X12_isNumber ⟨Nat.le_of_ble_eq_true rfl, Nat.le_of_ble_eq_true rfl⟩) [0, 1] rfl (of_decide_eq_true rfl) [0] rfl rfl rfl rfl hl.1 rfl (Nat.le_of_ble_eq_true rfl) dX12_depth_2 ⟨Nat.le_of_ble_eq_true rfl, Nat.le_of_ble_eq_true rfl⟩ [some 0, some 1] (of_decide_eq_true rfl) (of_decide_eq_true rfl) rfl rfl rfl (fun H locs hw_4n hP hD hS => ?_)
  refine lv_if_ne (tgt := 10) hx hb dX12_depth_5 (of_decide_eq_true rfl) (fun c_5 => ?_) (fun c_5 => ?_)
  · have hfn := (if_neg c_5).symm.trans hfn
    refine lv_iconst (v := 0) hx hb dX12_depth_10 zci_0 ?_
    refine lv_istore_n (lv' := [(2, .int 0), (0, .ref h0), (1, .int p1)]) hx hb dX12_depth_11 rfl hl (of_decide_eq_true rfl) rfl (fun ls hl => ?_)
    obtain ⟨bd_6, ebd_6, hfn⟩ := zl_g hfn
    have lp_6 : ∀ (n : Nat) (s_6 : Int32 × (Nat → Int32)) (H : Heap) (locs : List Loc) (ls : Array Slot), zl bd_6 n s_6 = some o → va_P (dC, dI) vwCl [(h0, .inr (12, zO a0 b0 c0)), zVi (a0 17) k1 2 f1, zVi (a0 20) k2 28 f2, zVi (a0 36) k3 14 s_6.2, zVi (a0 21) k4 28 f4, zVi (a0 19) k5 28 f5] H → va_D A [(h0, .inr (12, zO a0 b0 c0)), zVi (a0 17) k1 2 f1, zVi (a0 20) k2 28 f2, zVi (a0 36) k3 14 s_6.2, zVi (a0 21) k4 28 f4, zVi (a0 19) k5 28 f5] → va_S A s.heap H locs → lv_has ls 5 [(2, .int s_6.1), (0, .ref h0), (1, .int p1)] → W p l e (headSpec wsX12_depth ({ frames := 2, cells := 0, slots := 0, locals := 46 })).room s m ([.ref h0, .int p1] : List Value).toArray below meth c H locs 0 0 Q (F0 m 12 ls []) := by
      intro n
      induction n with
      | zero => exact fun _ _ _ _ hfn => (zl_0 hfn).elim
      | succ n ih_6 =>
        intro s_6 H locs ls hfn hP hD hS hl
        have hfn := zl_s ebd_6 hfn
        refine lv_iload_n hx hb dX12_depth_12 rfl (lv_at hl 0 rfl) ?_
        refine lv_iload_n hx hb dX12_depth_13 rfl (lv_at hl 2 rfl) ?_
        refine lv_icmp_gt (tgt := 79) hx hb dX12_depth_14 (of_decide_eq_true rfl) (fun c_7 => ?_) (fun c_7 => ?_)
        · have hfn := (if_pos c_7).symm.trans hfn
          refine lv_aload_n hx hb dX12_depth_79 rfl (lv_at hl 1 rfl) ?_
          refine va_get (D := (dC, dI)) (ci := 12) (v := .ref (a0 36)) (C := RX12) (T := TX12) (N := 67) hx hb hts zn_X12_depth_X12 hown hK hP 0 rfl rfl 36 (of_decide_eq_true rfl) (hts (.fieldLink RX12 122 "ShortEnoughModel" "deep" "[I") zw_X12_depth_1131) (fun _ h9 => h9) rfl dX12_depth_80 ?_
          refine lv_iload_n hx hb dX12_depth_83 rfl (lv_at hl 2 rfl) ?_
          obtain ⟨h_8, hfn⟩ := zg_s hfn
          refine va_iald hx hb hK hP 3 2 rfl rfl h_8 dX12_depth_84 ?_
          have ho := Option.some.inj hfn
          subst ho
          exact zri hx hb hr hK hP hD hS hQ rfl hlocks dX12_depth_85
        have hfn := (if_neg c_7).symm.trans hfn
        refine lv_aload_n hx hb dX12_depth_17 rfl (lv_at hl 1 rfl) ?_
        refine lv_aload_n hx hb dX12_depth_18 rfl (lv_at hl 1 rfl) ?_
        refine va_get (D := (dC, dI)) (ci := 12) (v := .ref (a0 20)) (C := RX12) (T := TX12) (N := 67) hx hb hts zn_X12_depth_X12 hown hK hP 0 rfl rfl 20 (of_decide_eq_true rfl) (hts (.fieldLink RX12 71 "ShortEnoughModel" "first" "[I") zw_X12_depth_1129) (fun _ h9 => h9) rfl dX12_depth_19 ?_
        refine lv_iload_n hx hb dX12_depth_22 rfl (lv_at hl 0 rfl) ?_
        obtain ⟨h_9, hfn⟩ := zg_s hfn
        refine va_iald hx hb hK hP 2 1 rfl rfl h_9 dX12_depth_23 ?_
        obtain ⟨o_10, hqo_10, hfn⟩ := zb_s hfn
        refine zcVi (ci := 12) (rest := []) (pc' := 27) (ws' := [(h0, .inr (12, zO a0 b0 c0)), zVi (a0 17) k1 2 f1, zVi (a0 20) k2 28 f2, zVi (a0 36) k3 14 s_6.2, zVi (a0 21) k4 28 f4, zVi (a0 19) k5 28 f5]) hP hK hD hS hA ⟨hx, hb, hml, hown, hts⟩ (zf_X12_deepOf l dC dI h0 (f2 s_6.1.toNatClampNeg) a0 b0 c0 k3 s_6.2 o_10 hqo_10 H.size) (cwV 1 hts gX12_depth_X12_deepOf rfl rfl rfl zhd_X12_deepOf ⟨Nat.le_of_ble_eq_true rfl, Nat.le_of_ble_eq_true rfl⟩) [0, 3] rfl (of_decide_eq_true rfl) [2] rfl rfl rfl rfl hl.1 rfl (Nat.le_of_ble_eq_true rfl) dX12_depth_24 ⟨Nat.le_of_ble_eq_true rfl, Nat.le_of_ble_eq_true rfl⟩ [some 0, none, none, some 1] (of_decide_eq_true rfl) (of_decide_eq_true rfl) rfl rfl rfl (fun H locs hP hD hS => ?_)
        refine lv_istore_n (lv' := [(3, .int o_10), (2, .int s_6.1), (0, .ref h0), (1, .int p1)]) hx hb dX12_depth_27 rfl hl (of_decide_eq_true rfl) rfl (fun ls hl => ?_)
        refine lv_aload_n hx hb dX12_depth_28 rfl (lv_at hl 2 rfl) ?_
        refine lv_aload_n hx hb dX12_depth_29 rfl (lv_at hl 2 rfl) ?_
        refine va_get (D := (dC, dI)) (ci := 12) (v := .ref (a0 21)) (C := RX12) (T := TX12) (N := 67) hx hb hts zn_X12_depth_X12 hown hK hP 0 rfl rfl 21 (of_decide_eq_true rfl) (hts (.fieldLink RX12 74 "ShortEnoughModel" "second" "[I") zw_X12_depth_1130) (fun _ h9 => h9) rfl dX12_depth_30 ?_
        refine lv_iload_n hx hb dX12_depth_33 rfl (lv_at hl 1 rfl) ?_
        refine va_iald hx hb hK hP 4 3 rfl rfl h_9 dX12_depth_34 ?_
        obtain ⟨o_14, hqo_14, hfn⟩ := zb_s hfn
        refine zcVi (ci := 12) (rest := []) (pc' := 38) (ws' := [(h0, .inr (12, zO a0 b0 c0)), zVi (a0 17) k1 2 f1, zVi (a0 20) k2 28 f2, zVi (a0 36) k3 14 s_6.2, zVi (a0 21) k4 28 f4, zVi (a0 19) k5 28 f5]) hP hK hD hS hA ⟨hx, hb, hml, hown, hts⟩ (zf_X12_deepOf l dC dI h0 (f4 s_6.1.toNatClampNeg) a0 b0 c0 k3 s_6.2 o_14 hqo_14 H.size) (cwV 1 hts gX12_depth_X12_deepOf rfl rfl rfl zhd_X12_deepOf ⟨Nat.le_of_ble_eq_true rfl, Nat.le_of_ble_eq_true rfl⟩) [0, 3] rfl (of_decide_eq_true rfl) [2] rfl rfl rfl rfl hl.1 rfl (Nat.le_of_ble_eq_true rfl) dX12_depth_35 ⟨Nat.le_of_ble_eq_true rfl, Nat.le_of_ble_eq_true rfl⟩ [some 0, none, none, some 1] (of_decide_eq_true rfl) (of_decide_eq_true rfl) rfl rfl rfl (fun H locs hP hD hS => ?_)
        refine lv_istore (lv' := [(4, .int o_14), (3, .int o_10), (2, .int s_6.1), (0, .ref h0), (1, .int p1)]) hx hb dX12_depth_38 hl (of_decide_eq_true rfl) rfl (fun ls hl => ?_)
        refine lv_aload_n hx hb dX12_depth_40 rfl (lv_at hl 3 rfl) ?_
        refine va_get (D := (dC, dI)) (ci := 12) (v := .ref (a0 36)) (C := RX12) (T := TX12) (N := 67) hx hb hts zn_X12_depth_X12 hown hK hP 0 rfl rfl 36 (of_decide_eq_true rfl) (hts (.fieldLink RX12 122 "ShortEnoughModel" "deep" "[I") zw_X12_depth_1131) (fun _ h9 => h9) rfl dX12_depth_41 ?_
        refine lv_iload_n hx hb dX12_depth_44 rfl (lv_at hl 2 rfl) ?_
        refine lv_aload_n hx hb dX12_depth_45 rfl (lv_at hl 3 rfl) ?_
        refine va_get (D := (dC, dI)) (ci := 12) (v := .ref (a0 19)) (C := RX12) (T := TX12) (N := 67) hx hb hts zn_X12_depth_X12 hown hK hP 0 rfl rfl 19 (of_decide_eq_true rfl) (hts (.fieldLink RX12 68 "ShortEnoughModel" "op" "[I") zw_X12_depth_1132) (fun _ h9 => h9) rfl dX12_depth_46 ?_
        refine lv_iload_n hx hb dX12_depth_49 rfl (lv_at hl 2 rfl) ?_
        refine va_iald hx hb hK hP 5 4 rfl rfl h_9 dX12_depth_50 ?_
        refine lv_if_ne (tgt := 58) hx hb dX12_depth_51 (of_decide_eq_true rfl) (fun c_18 => ?_) (fun c_18 => ?_)
        · have hfn := (if_neg c_18).symm.trans hfn
          refine lv_iload_n hx hb dX12_depth_58 rfl (lv_at hl 1 rfl) ?_
          refine lv_iload hx hb dX12_depth_59 (lv_at hl 0 rfl) ?_
          refine lv_icmp_le (tgt := 68) hx hb dX12_depth_61 (of_decide_eq_true rfl) (fun c_19 => ?_) (fun c_19 => ?_)
          · have hfn := (if_pos c_19).symm.trans hfn
            refine lv_iload hx hb dX12_depth_68 (lv_at hl 0 rfl) ?_
            refine lv_iconst (v := 1) hx hb dX12_depth_70 zci_1 ?_
            refine lv_iadd hx hb dX12_depth_71 ?_
            obtain ⟨h_20, hfn⟩ := zg_s hfn
            refine va_iast hx hb hK hP hD hS 3 2 rfl rfl h_20 dX12_depth_72 (fun H locs hP hD hS => ?_)
            have hP : va_P (dC, dI) vwCl [(h0, .inr (12, zO a0 b0 c0)), zVi (a0 17) k1 2 f1, zVi (a0 20) k2 28 f2, zVi (a0 36) k3 14 (upd s_6.2 s_6.1.toNatClampNeg (o_14 + 1)), zVi (a0 21) k4 28 f4, zVi (a0 19) k5 28 f5] H := hP
            have hD := zDW hD hP rfl
            refine lv_iinc (v := (s_6.1 + 1)) (lv' := [(2, .int (s_6.1 + 1)), (4, .int o_14), (3, .int o_10), (0, .ref h0), (1, .int p1)]) hx hb dX12_depth_73 hl (k := 2) rfl rfl (of_decide_eq_true rfl) rfl (fun ls hl => ?_)
            refine lv_goto (tgt := 12) hx hb dX12_depth_76 (of_decide_eq_true rfl) ?_
            exact ih_6 ((s_6.1 + 1), (upd s_6.2 s_6.1.toNatClampNeg (o_14 + 1))) H locs ls hfn hP hD hS (lv_sub hl [0, 3, 4] rfl)
          have hfn := (if_neg c_19).symm.trans hfn
          refine lv_iload_n hx hb dX12_depth_64 rfl (lv_at hl 1 rfl) ?_
          refine lv_goto (tgt := 70) hx hb dX12_depth_65 (of_decide_eq_true rfl) ?_
          refine lv_iconst (v := 1) hx hb dX12_depth_70 zci_1 ?_
          refine lv_iadd hx hb dX12_depth_71 ?_
          obtain ⟨h_21, hfn⟩ := zg_s hfn
          refine va_iast hx hb hK hP hD hS 3 2 rfl rfl h_21 dX12_depth_72 (fun H locs hP hD hS => ?_)
          have hP : va_P (dC, dI) vwCl [(h0, .inr (12, zO a0 b0 c0)), zVi (a0 17) k1 2 f1, zVi (a0 20) k2 28 f2, zVi (a0 36) k3 14 (upd s_6.2 s_6.1.toNatClampNeg (o_10 + 1)), zVi (a0 21) k4 28 f4, zVi (a0 19) k5 28 f5] H := hP
          have hD := zDW hD hP rfl
          refine lv_iinc (v := (s_6.1 + 1)) (lv' := [(2, .int (s_6.1 + 1)), (4, .int o_14), (3, .int o_10), (0, .ref h0), (1, .int p1)]) hx hb dX12_depth_73 hl (k := 2) rfl rfl (of_decide_eq_true rfl) rfl (fun ls hl => ?_)
          refine lv_goto (tgt := 12) hx hb dX12_depth_76 (of_decide_eq_true rfl) ?_
          exact ih_6 ((s_6.1 + 1), (upd s_6.2 s_6.1.toNatClampNeg (o_10 + 1))) H locs ls hfn hP hD hS (lv_sub hl [0, 3, 4] rfl)
        have hfn := (if_pos c_18).symm.trans hfn
        refine lv_iconst (v := 0) hx hb dX12_depth_54 zci_0 ?_
        refine lv_goto (tgt := 72) hx hb dX12_depth_55 (of_decide_eq_true rfl) ?_
        obtain ⟨h_22, hfn⟩ := zg_s hfn
        refine va_iast hx hb hK hP hD hS 3 2 rfl rfl h_22 dX12_depth_72 (fun H locs hP hD hS => ?_)
        have hP : va_P (dC, dI) vwCl [(h0, .inr (12, zO a0 b0 c0)), zVi (a0 17) k1 2 f1, zVi (a0 20) k2 28 f2, zVi (a0 36) k3 14 (upd s_6.2 s_6.1.toNatClampNeg 0), zVi (a0 21) k4 28 f4, zVi (a0 19) k5 28 f5] H := hP
        have hD := zDW hD hP rfl
        refine lv_iinc (v := (s_6.1 + 1)) (lv' := [(2, .int (s_6.1 + 1)), (4, .int o_14), (3, .int o_10), (0, .ref h0), (1, .int p1)]) hx hb dX12_depth_73 hl (k := 2) rfl rfl (of_decide_eq_true rfl) rfl (fun ls hl => ?_)
        refine lv_goto (tgt := 12) hx hb dX12_depth_76 (of_decide_eq_true rfl) ?_
        exact ih_6 ((s_6.1 + 1), (upd s_6.2 s_6.1.toNatClampNeg 0)) H locs ls hfn hP hD hS (lv_sub hl [0, 3, 4] rfl)
    exact lp_6 _ (0, f3) H locs ls hfn hP hD hS (lv_sub hl [0, 1, 2] rfl)
  have hfn := (if_pos c_5).symm.trans hfn
  refine lv_iconst (v := (-1)) hx hb dX12_depth_8 zci_m1 ?_
  have ho := Option.some.inj hfn
  subst ho
  exact zri hx hb hr hK hP hD hS hQ rfl hlocks dX12_depth_9
theorem zn_X12_triesHand_X12 : ∀ w ∈ wsX120, w ∈ wsX12_triesHand := fun _ h => List.mem_cons_of_mem _ (List.mem_append_right _ h)
theorem zw_X12_triesHand_1134 : Cond.fieldLink RX12 62 "ShortEnoughModel" "numbers" "[I" ∈ wsX12_triesHand := List.mem_of_getElem? (i := 1) (by decide +kernel)
theorem zw_X12_triesHand_1135 : Cond.fieldLink RX12 132 "ShortEnoughModel" "tried" "[I" ∈ wsX12_triesHand := List.mem_of_getElem? (i := 2) (by decide +kernel)
theorem zw_X12_triesHand_1136 : Cond.fieldLink RX12 125 "ShortEnoughModel" "hand" "[I" ∈ wsX12_triesHand := List.mem_of_getElem? (i := 3) (by decide +kernel)
set_option maxHeartbeats 4000000 in
set_option maxRecDepth 100000 in
theorem zf_X12_triesHand (l : Launch) (dC : Nat → ClassId) (dI : Nat → Nat → Nat) (h0 : Nat) (a0 : Nat → Nat) (b0 : Nat → Int32) (c0 : Nat → Int64) (k1 : Nat) (f1 : Nat → Int32) (k2 : Nat) (f2 : Nat → Int32) (k3 : Nat) (f3 : Nat → Int32) (o : (Nat → Int32)) (hfn : fn_X12_triesHand f1 f2 f3 = some o) (sz : Nat) : zMv l yX12_triesHand wsX12_triesHand ({ frames := 0, cells := 0, slots := 0, locals := 0 }) (dC, dI) vwCl [.ref h0] [(h0, .inr (12, zO a0 b0 c0)), zVi (a0 17) k1 2 f1, zVi (a0 37) k2 14 f2, zVi (a0 39) k3 14 f3] [(k1, .int), (k2, .int), (k3, .int)] (fun _ => True) [(h0, .inr (12, zO a0 b0 c0)), zVi (a0 17) k1 2 f1, zVi (a0 37) k2 14 f2, zVi (a0 39) k3 14 o] [(k1, .int), (k2, .int), (k3, .int)] sz := by
  refine zgov (cc := cX12_triesHand) (maxL := 2) (ret := none) (C0 := RX12) (lv0 := [(0, .ref h0)]) zpl_X12 rfl rfl rfl (Nat.le_of_ble_eq_true rfl) ?_
  intro p e s m below meth c A ls Q hx hb hr hts hown hlocks hml hP hK hD hA hS hl hQ
  unfold fn_X12_triesHand at hfn
  refine lv_iconst (v := 0) hx hb dX12_triesHand_0 zci_0 ?_
  refine lv_istore_n (lv' := [(1, .int 0), (0, .ref h0)]) hx hb dX12_triesHand_1 rfl hl (of_decide_eq_true rfl) rfl (fun ls hl => ?_)
  obtain ⟨bd_1, ebd_1, hfn⟩ := zl_g hfn
  have lp_1 : ∀ (n : Nat) (s_1 : Int32 × (Nat → Int32)) (H : Heap) (locs : List Loc) (ls : Array Slot), zl bd_1 n s_1 = some o → va_P (dC, dI) vwCl [(h0, .inr (12, zO a0 b0 c0)), zVi (a0 17) k1 2 f1, zVi (a0 37) k2 14 f2, zVi (a0 39) k3 14 s_1.2] H → va_D A [(h0, .inr (12, zO a0 b0 c0)), zVi (a0 17) k1 2 f1, zVi (a0 37) k2 14 f2, zVi (a0 39) k3 14 s_1.2] → va_S A s.heap H locs → lv_has ls 2 [(1, .int s_1.1), (0, .ref h0)] → W p l e (headSpec wsX12_triesHand ({ frames := 0, cells := 0, slots := 0, locals := 0 })).room s m ([.ref h0] : List Value).toArray below meth c H locs 0 0 Q (F0 m 2 ls []) := by
    intro n
    induction n with
    | zero => exact fun _ _ _ _ hfn => (zl_0 hfn).elim
    | succ n ih_1 =>
      intro s_1 H locs ls hfn hP hD hS hl
      have hfn := zl_s ebd_1 hfn
      refine lv_iload_n hx hb dX12_triesHand_2 rfl (lv_at hl 0 rfl) ?_
      refine lv_aload_n hx hb dX12_triesHand_3 rfl (lv_at hl 1 rfl) ?_
      refine va_get (D := (dC, dI)) (ci := 12) (v := .ref (a0 17)) (C := RX12) (T := TX12) (N := 67) hx hb hts zn_X12_triesHand_X12 hown hK hP 0 rfl rfl 17 (of_decide_eq_true rfl) (hts (.fieldLink RX12 62 "ShortEnoughModel" "numbers" "[I") zw_X12_triesHand_1134) (fun _ h9 => h9) rfl dX12_triesHand_4 ?_
      refine lv_iconst (v := 0) hx hb dX12_triesHand_7 zci_0 ?_
      refine va_iald hx hb hK hP 1 0 rfl rfl (zv_in (by decide +kernel)) dX12_triesHand_8 ?_
      refine lv_icmp_ge (tgt := 30) hx hb dX12_triesHand_9 (of_decide_eq_true rfl) (fun c_2 => ?_) (fun c_2 => ?_)
      · have hfn := (if_pos c_2).symm.trans hfn
        have ho := Option.some.inj hfn
        subst ho
        exact zrv hx hb hr hK hP hD hS hQ trivial hlocks dX12_triesHand_30
      have hfn := (if_neg c_2).symm.trans hfn
      refine lv_aload_n hx hb dX12_triesHand_12 rfl (lv_at hl 1 rfl) ?_
      refine va_get (D := (dC, dI)) (ci := 12) (v := .ref (a0 39)) (C := RX12) (T := TX12) (N := 67) hx hb hts zn_X12_triesHand_X12 hown hK hP 0 rfl rfl 39 (of_decide_eq_true rfl) (hts (.fieldLink RX12 132 "ShortEnoughModel" "tried" "[I") zw_X12_triesHand_1135) (fun _ h9 => h9) rfl dX12_triesHand_13 ?_
      refine lv_iload_n hx hb dX12_triesHand_16 rfl (lv_at hl 0 rfl) ?_
      refine lv_aload_n hx hb dX12_triesHand_17 rfl (lv_at hl 1 rfl) ?_
      refine va_get (D := (dC, dI)) (ci := 12) (v := .ref (a0 37)) (C := RX12) (T := TX12) (N := 67) hx hb hts zn_X12_triesHand_X12 hown hK hP 0 rfl rfl 37 (of_decide_eq_true rfl) (hts (.fieldLink RX12 125 "ShortEnoughModel" "hand" "[I") zw_X12_triesHand_1136) (fun _ h9 => h9) rfl dX12_triesHand_18 ?_
      refine lv_iload_n hx hb dX12_triesHand_21 rfl (lv_at hl 0 rfl) ?_
      obtain ⟨h_3, hfn⟩ := zg_s hfn
      refine va_iald hx hb hK hP 2 1 rfl rfl h_3 dX12_triesHand_22 ?_
      refine va_iast hx hb hK hP hD hS 3 2 rfl rfl h_3 dX12_triesHand_23 (fun H locs hP hD hS => ?_)
      have hP : va_P (dC, dI) vwCl [(h0, .inr (12, zO a0 b0 c0)), zVi (a0 17) k1 2 f1, zVi (a0 37) k2 14 f2, zVi (a0 39) k3 14 (upd s_1.2 s_1.1.toNatClampNeg (f2 s_1.1.toNatClampNeg))] H := hP
      have hD := zDW hD hP rfl
      refine lv_iinc (v := (s_1.1 + 1)) (lv' := [(1, .int (s_1.1 + 1)), (0, .ref h0)]) hx hb dX12_triesHand_24 hl (k := 0) rfl rfl (of_decide_eq_true rfl) rfl (fun ls hl => ?_)
      refine lv_goto (tgt := 2) hx hb dX12_triesHand_27 (of_decide_eq_true rfl) ?_
      exact ih_1 ((s_1.1 + 1), (upd s_1.2 s_1.1.toNatClampNeg (f2 s_1.1.toNatClampNeg))) H locs ls hfn hP hD hS (lv_sub hl [0, 1] rfl)
  exact lp_1 _ (0, f3) s.heap [] ls hfn hP hD hS (lv_sub hl [0, 1] rfl)
theorem zn_X12_triesGroup_X12 : ∀ w ∈ wsX120, w ∈ wsX12_triesGroup := fun _ h => List.mem_cons_of_mem _ (List.mem_append_right _ h)
theorem zw_X12_triesGroup_1138 : Cond.fieldLink RX12 62 "ShortEnoughModel" "numbers" "[I" ∈ wsX12_triesGroup := List.mem_of_getElem? (i := 1) (by decide +kernel)
theorem zw_X12_triesGroup_1139 : Cond.fieldLink RX12 132 "ShortEnoughModel" "tried" "[I" ∈ wsX12_triesGroup := List.mem_of_getElem? (i := 2) (by decide +kernel)
theorem zw_X12_triesGroup_1140 : Cond.fieldLink RX12 93 "ShortEnoughModel" "groupOf" "[I" ∈ wsX12_triesGroup := List.mem_of_getElem? (i := 3) (by decide +kernel)
set_option maxHeartbeats 4000000 in
set_option maxRecDepth 100000 in
theorem zf_X12_triesGroup (l : Launch) (dC : Nat → ClassId) (dI : Nat → Nat → Nat) (h0 : Nat) (p1 : Int32) (p2 : Int32) (a0 : Nat → Nat) (b0 : Nat → Int32) (c0 : Nat → Int64) (k1 : Nat) (f1 : Nat → Int32) (k2 : Nat) (f2 : Nat → Int32) (k3 : Nat) (f3 : Nat → Int32) (o : (Nat → Int32)) (hfn : fn_X12_triesGroup p1 p2 f1 f2 f3 = some o) (sz : Nat) : zMv l yX12_triesGroup wsX12_triesGroup ({ frames := 0, cells := 0, slots := 0, locals := 0 }) (dC, dI) vwCl [.ref h0, .int p1, .int p2] [(h0, .inr (12, zO a0 b0 c0)), zVi (a0 17) k1 2 f1, zVi (a0 27) k2 28 f2, zVi (a0 39) k3 14 f3] [(k1, .int), (k2, .int), (k3, .int)] (fun _ => True) [(h0, .inr (12, zO a0 b0 c0)), zVi (a0 17) k1 2 f1, zVi (a0 27) k2 28 f2, zVi (a0 39) k3 14 o] [(k1, .int), (k2, .int), (k3, .int)] sz := by
  refine zgov (cc := cX12_triesGroup) (maxL := 4) (ret := none) (C0 := RX12) (lv0 := [(0, .ref h0), (1, .int p1), (2, .int p2)]) zpl_X12 rfl rfl rfl (Nat.le_of_ble_eq_true rfl) ?_
  intro p e s m below meth c A ls Q hx hb hr hts hown hlocks hml hP hK hD hA hS hl hQ
  unfold fn_X12_triesGroup at hfn
  refine lv_iconst (v := 0) hx hb dX12_triesGroup_0 zci_0 ?_
  refine lv_istore_n (lv' := [(3, .int 0), (0, .ref h0), (1, .int p1), (2, .int p2)]) hx hb dX12_triesGroup_1 rfl hl (of_decide_eq_true rfl) rfl (fun ls hl => ?_)
  obtain ⟨bd_1, ebd_1, hfn⟩ := zl_g hfn
  have lp_1 : ∀ (n : Nat) (s_1 : Int32 × (Nat → Int32)) (H : Heap) (locs : List Loc) (ls : Array Slot), zl bd_1 n s_1 = some o → va_P (dC, dI) vwCl [(h0, .inr (12, zO a0 b0 c0)), zVi (a0 17) k1 2 f1, zVi (a0 27) k2 28 f2, zVi (a0 39) k3 14 s_1.2] H → va_D A [(h0, .inr (12, zO a0 b0 c0)), zVi (a0 17) k1 2 f1, zVi (a0 27) k2 28 f2, zVi (a0 39) k3 14 s_1.2] → va_S A s.heap H locs → lv_has ls 4 [(3, .int s_1.1), (0, .ref h0), (1, .int p1), (2, .int p2)] → W p l e (headSpec wsX12_triesGroup ({ frames := 0, cells := 0, slots := 0, locals := 0 })).room s m ([.ref h0, .int p1, .int p2] : List Value).toArray below meth c H locs 0 0 Q (F0 m 2 ls []) := by
    intro n
    induction n with
    | zero => exact fun _ _ _ _ hfn => (zl_0 hfn).elim
    | succ n ih_1 =>
      intro s_1 H locs ls hfn hP hD hS hl
      have hfn := zl_s ebd_1 hfn
      refine lv_iload_n hx hb dX12_triesGroup_2 rfl (lv_at hl 0 rfl) ?_
      refine lv_aload_n hx hb dX12_triesGroup_3 rfl (lv_at hl 1 rfl) ?_
      refine va_get (D := (dC, dI)) (ci := 12) (v := .ref (a0 17)) (C := RX12) (T := TX12) (N := 67) hx hb hts zn_X12_triesGroup_X12 hown hK hP 0 rfl rfl 17 (of_decide_eq_true rfl) (hts (.fieldLink RX12 62 "ShortEnoughModel" "numbers" "[I") zw_X12_triesGroup_1138) (fun _ h9 => h9) rfl dX12_triesGroup_4 ?_
      refine lv_iconst (v := 0) hx hb dX12_triesGroup_7 zci_0 ?_
      refine va_iald hx hb hK hP 1 0 rfl rfl (zv_in (by decide +kernel)) dX12_triesGroup_8 ?_
      refine lv_icmp_ge (tgt := 44) hx hb dX12_triesGroup_9 (of_decide_eq_true rfl) (fun c_2 => ?_) (fun c_2 => ?_)
      · have hfn := (if_pos c_2).symm.trans hfn
        have ho := Option.some.inj hfn
        subst ho
        exact zrv hx hb hr hK hP hD hS hQ trivial hlocks dX12_triesGroup_44
      have hfn := (if_neg c_2).symm.trans hfn
      refine lv_aload_n hx hb dX12_triesGroup_12 rfl (lv_at hl 1 rfl) ?_
      refine va_get (D := (dC, dI)) (ci := 12) (v := .ref (a0 39)) (C := RX12) (T := TX12) (N := 67) hx hb hts zn_X12_triesGroup_X12 hown hK hP 0 rfl rfl 39 (of_decide_eq_true rfl) (hts (.fieldLink RX12 132 "ShortEnoughModel" "tried" "[I") zw_X12_triesGroup_1139) (fun _ h9 => h9) rfl dX12_triesGroup_13 ?_
      refine lv_iload_n hx hb dX12_triesGroup_16 rfl (lv_at hl 0 rfl) ?_
      refine lv_aload_n hx hb dX12_triesGroup_17 rfl (lv_at hl 1 rfl) ?_
      refine va_get (D := (dC, dI)) (ci := 12) (v := .ref (a0 27)) (C := RX12) (T := TX12) (N := 67) hx hb hts zn_X12_triesGroup_X12 hown hK hP 0 rfl rfl 27 (of_decide_eq_true rfl) (hts (.fieldLink RX12 93 "ShortEnoughModel" "groupOf" "[I") zw_X12_triesGroup_1140) (fun _ h9 => h9) rfl dX12_triesGroup_18 ?_
      refine lv_iload_n hx hb dX12_triesGroup_21 rfl (lv_at hl 0 rfl) ?_
      obtain ⟨h_3, hfn⟩ := zg_s hfn
      refine va_iald hx hb hK hP 2 1 rfl rfl h_3 dX12_triesGroup_22 ?_
      refine lv_iload_n hx hb dX12_triesGroup_23 rfl (lv_at hl 2 rfl) ?_
      refine lv_icmp_ne (tgt := 31) hx hb dX12_triesGroup_24 (of_decide_eq_true rfl) (fun c_4 => ?_) (fun c_4 => ?_)
      · have hfn := (if_neg c_4).symm.trans hfn
        refine lv_aload_n hx hb dX12_triesGroup_31 rfl (lv_at hl 1 rfl) ?_
        refine va_get (D := (dC, dI)) (ci := 12) (v := .ref (a0 39)) (C := RX12) (T := TX12) (N := 67) hx hb hts zn_X12_triesGroup_X12 hown hK hP 0 rfl rfl 39 (of_decide_eq_true rfl) (hts (.fieldLink RX12 132 "ShortEnoughModel" "tried" "[I") zw_X12_triesGroup_1139) (fun _ h9 => h9) rfl dX12_triesGroup_32 ?_
        refine lv_iload_n hx hb dX12_triesGroup_35 rfl (lv_at hl 0 rfl) ?_
        obtain ⟨h_5, hfn⟩ := zg_s hfn
        refine va_iald hx hb hK hP 3 2 rfl rfl h_5 dX12_triesGroup_36 ?_
        refine va_iast hx hb hK hP hD hS 3 2 rfl rfl h_5 dX12_triesGroup_37 (fun H locs hP hD hS => ?_)
        have hP : va_P (dC, dI) vwCl [(h0, .inr (12, zO a0 b0 c0)), zVi (a0 17) k1 2 f1, zVi (a0 27) k2 28 f2, zVi (a0 39) k3 14 (upd s_1.2 s_1.1.toNatClampNeg (s_1.2 s_1.1.toNatClampNeg))] H := hP
        have hD := zDW hD hP rfl
        refine lv_iinc (v := (s_1.1 + 1)) (lv' := [(3, .int (s_1.1 + 1)), (0, .ref h0), (1, .int p1), (2, .int p2)]) hx hb dX12_triesGroup_38 hl (k := 0) rfl rfl (of_decide_eq_true rfl) rfl (fun ls hl => ?_)
        refine lv_goto (tgt := 2) hx hb dX12_triesGroup_41 (of_decide_eq_true rfl) ?_
        exact ih_1 ((s_1.1 + 1), (upd s_1.2 s_1.1.toNatClampNeg (s_1.2 s_1.1.toNatClampNeg))) H locs ls hfn hP hD hS (lv_sub hl [0, 1, 2, 3] rfl)
      have hfn := (if_pos c_4).symm.trans hfn
      refine lv_iload_n hx hb dX12_triesGroup_27 rfl (lv_at hl 3 rfl) ?_
      refine lv_goto (tgt := 37) hx hb dX12_triesGroup_28 (of_decide_eq_true rfl) ?_
      obtain ⟨h_6, hfn⟩ := zg_s hfn
      refine va_iast hx hb hK hP hD hS 3 2 rfl rfl h_6 dX12_triesGroup_37 (fun H locs hP hD hS => ?_)
      have hP : va_P (dC, dI) vwCl [(h0, .inr (12, zO a0 b0 c0)), zVi (a0 17) k1 2 f1, zVi (a0 27) k2 28 f2, zVi (a0 39) k3 14 (upd s_1.2 s_1.1.toNatClampNeg p2)] H := hP
      have hD := zDW hD hP rfl
      refine lv_iinc (v := (s_1.1 + 1)) (lv' := [(3, .int (s_1.1 + 1)), (0, .ref h0), (1, .int p1), (2, .int p2)]) hx hb dX12_triesGroup_38 hl (k := 0) rfl rfl (of_decide_eq_true rfl) rfl (fun ls hl => ?_)
      refine lv_goto (tgt := 2) hx hb dX12_triesGroup_41 (of_decide_eq_true rfl) ?_
      exact ih_1 ((s_1.1 + 1), (upd s_1.2 s_1.1.toNatClampNeg p2)) H locs ls hfn hP hD hS (lv_sub hl [0, 1, 2, 3] rfl)
  exact lp_1 _ (0, f3) s.heap [] ls hfn hP hD hS (lv_sub hl [0, 1, 2, 3] rfl)
theorem zn_X12_castError_X12 : ∀ w ∈ wsX120, w ∈ wsX12_castError := fun _ h => List.mem_cons_of_mem _ (List.mem_append_right _ h)
theorem zw_X12_castError_1142 : Cond.fieldLink RX12 53 "ShortEnoughModel" "step" "[I" ∈ wsX12_castError := List.mem_of_getElem? (i := 1) (by decide +kernel)
theorem zw_X12_castError_1143 : Cond.fieldLink RX12 132 "ShortEnoughModel" "tried" "[I" ∈ wsX12_castError := List.mem_of_getElem? (i := 2) (by decide +kernel)
theorem zw_X12_castError_1144 : Cond.fieldLink RX12 71 "ShortEnoughModel" "first" "[I" ∈ wsX12_castError := List.mem_of_getElem? (i := 4) (by decide +kernel)
theorem zw_X12_castError_1145 : Cond.fieldLink RX12 74 "ShortEnoughModel" "second" "[I" ∈ wsX12_castError := List.mem_of_getElem? (i := 3) (by decide +kernel)
theorem zw_X12_castError_1146 : Cond.fieldLink RX12 135 "ShortEnoughModel" "error" "[J" ∈ wsX12_castError := List.mem_of_getElem? (i := 8) (by decide +kernel)
theorem zw_X12_castError_1147 : Cond.constantLong RX12 383 (2) ∈ wsX12_castError := List.mem_of_getElem? (i := 7) (by decide +kernel)
theorem zw_X12_castError_1148 : Cond.fieldLink RX12 77 "ShortEnoughModel" "firstV" "[J" ∈ wsX12_castError := List.mem_of_getElem? (i := 6) (by decide +kernel)
theorem zw_X12_castError_1149 : Cond.fieldLink RX12 81 "ShortEnoughModel" "secondV" "[J" ∈ wsX12_castError := List.mem_of_getElem? (i := 5) (by decide +kernel)
set_option maxHeartbeats 4000000 in
set_option maxRecDepth 100000 in
theorem zf_X12_castError (l : Launch) (dC : Nat → ClassId) (dI : Nat → Nat → Nat) (h0 : Nat) (p1 : Int32) (p2 : Int32) (a0 : Nat → Nat) (b0 : Nat → Int32) (c0 : Nat → Int64) (k1 : Nat) (f1 : Nat → Int32) (k2 : Nat) (f2 : Nat → Int32) (k3 : Nat) (f3 : Nat → Int32) (k4 : Nat) (f4 : Nat → Int32) (k5 : Nat) (f5 : Nat → Int64) (k6 : Nat) (f6 : Nat → Int64) (k7 : Nat) (f7 : Nat → Int64) (o : Int64) (hfn : fn_X12_castError p1 p2 f1 f2 f3 f4 f5 f6 f7 = some o) (sz : Nat) : zMl l yX12_castError wsX12_castError ({ frames := 0, cells := 0, slots := 0, locals := 0 }) (dC, dI) vwCl [.ref h0, .int p1, .int p2] [(h0, .inr (12, zO a0 b0 c0)), zVi (a0 39) k1 14 f1, zVi (a0 14) k2 8 f2, zVi (a0 20) k3 28 f3, zVi (a0 21) k4 28 f4, zVl (a0 40) k5 14 f5, zVl (a0 22) k6 28 f6, zVl (a0 23) k7 28 f7] [(k1, .int), (k2, .int), (k3, .int), (k4, .int), (k5, .long), (k6, .long), (k7, .long)] (fun r _ => r = o) [(h0, .inr (12, zO a0 b0 c0)), zVi (a0 39) k1 14 f1, zVi (a0 14) k2 8 f2, zVi (a0 20) k3 28 f3, zVi (a0 21) k4 28 f4, zVl (a0 40) k5 14 f5, zVl (a0 22) k6 28 f6, zVl (a0 23) k7 28 f7] [(k1, .int), (k2, .int), (k3, .int), (k4, .int), (k5, .long), (k6, .long), (k7, .long)] sz := by
  refine zgol (cc := cX12_castError) (maxL := 6) (ret := (some .long)) (C0 := RX12) (lv0 := [(0, .ref h0), (1, .int p1), (2, .int p2)]) zpl_X12 rfl rfl rfl (Nat.le_of_ble_eq_true rfl) ?_
  intro p e s m below meth c A ls Q hx hb hr hts hown hlocks hml hP hK hD hA hS hl hQ
  unfold fn_X12_castError at hfn
  refine lv_aload_n hx hb dX12_castError_0 rfl (lv_at hl 0 rfl) ?_
  refine va_get (D := (dC, dI)) (ci := 12) (v := .ref (a0 14)) (C := RX12) (T := TX12) (N := 67) hx hb hts zn_X12_castError_X12 hown hK hP 0 rfl rfl 14 (of_decide_eq_true rfl) (hts (.fieldLink RX12 53 "ShortEnoughModel" "step" "[I") zw_X12_castError_1142) (fun _ h9 => h9) rfl dX12_castError_1 ?_
  refine lv_aload_n hx hb dX12_castError_4 rfl (lv_at hl 0 rfl) ?_
  refine va_get (D := (dC, dI)) (ci := 12) (v := .ref (a0 39)) (C := RX12) (T := TX12) (N := 67) hx hb hts zn_X12_castError_X12 hown hK hP 0 rfl rfl 39 (of_decide_eq_true rfl) (hts (.fieldLink RX12 132 "ShortEnoughModel" "tried" "[I") zw_X12_castError_1143) (fun _ h9 => h9) rfl dX12_castError_5 ?_
  refine lv_iload_n hx hb dX12_castError_8 rfl (lv_at hl 1 rfl) ?_
  obtain ⟨h_1, hfn⟩ := zg_s hfn
  refine va_iald hx hb hK hP 1 0 rfl rfl h_1 dX12_castError_9 ?_
  obtain ⟨h_2, hfn⟩ := zg_s hfn
  refine va_iald hx hb hK hP 2 1 rfl rfl h_2 dX12_castError_10 ?_
  refine lv_i2l (v := (f2 (f1 p1.toNatClampNeg).toNatClampNeg).toInt64) hx hb dX12_castError_11 rfl ?_
  refine lv_lstore_n (lv' := [(3, .long (f2 (f1 p1.toNatClampNeg).toNatClampNeg).toInt64), (0, .ref h0), (1, .int p1), (2, .int p2)]) hx hb dX12_castError_12 rfl hl (of_decide_eq_true rfl) rfl (fun ls hl => ?_)
  refine lv_iload_n hx hb dX12_castError_13 rfl (lv_at hl 3 rfl) ?_
  obtain ⟨j_3, ej_3, hfn⟩ := zj_g hfn
  have jp_3 : ∀ (s_3 : Int32) (H : Heap) (locs : List Loc) (ls : Array Slot), j_3 s_3 = some o → va_P (dC, dI) vwCl [(h0, .inr (12, zO a0 b0 c0)), zVi (a0 39) k1 14 f1, zVi (a0 14) k2 8 f2, zVi (a0 20) k3 28 f3, zVi (a0 21) k4 28 f4, zVl (a0 40) k5 14 f5, zVl (a0 22) k6 28 f6, zVl (a0 23) k7 28 f7] H → va_D A [(h0, .inr (12, zO a0 b0 c0)), zVi (a0 39) k1 14 f1, zVi (a0 14) k2 8 f2, zVi (a0 20) k3 28 f3, zVi (a0 21) k4 28 f4, zVl (a0 40) k5 14 f5, zVl (a0 22) k6 28 f6, zVl (a0 23) k7 28 f7] → va_S A s.heap H locs → lv_has ls 6 [(3, .long (f2 (f1 p1.toNatClampNeg).toNatClampNeg).toInt64), (0, .ref h0), (1, .int p1), (2, .int p2)] → W p l e (headSpec wsX12_castError ({ frames := 0, cells := 0, slots := 0, locals := 0 })).room s m ([.ref h0, .int p1, .int p2] : List Value).toArray below meth c H locs 0 0 Q (F0 m 32 ls [.int s_3]) := by
    intro s_3 H locs ls hfn hP hD hS hl
    have hfn := zj_s ej_3 hfn
    refine lv_istore (lv' := [(5, .int s_3), (3, .long (f2 (f1 p1.toNatClampNeg).toNatClampNeg).toInt64), (0, .ref h0), (1, .int p1), (2, .int p2)]) hx hb dX12_castError_32 hl (of_decide_eq_true rfl) rfl (fun ls hl => ?_)
    refine lv_iload hx hb dX12_castError_34 (lv_at hl 0 rfl) ?_
    refine lv_iconst (v := (-1)) hx hb dX12_castError_36 zci_m1 ?_
    refine lv_icmp_ne (tgt := 76) hx hb dX12_castError_37 (of_decide_eq_true rfl) (fun c_4 => ?_) (fun c_4 => ?_)
    · have hfn := (if_neg c_4).symm.trans hfn
      refine lv_aload_n hx hb dX12_castError_76 rfl (lv_at hl 2 rfl) ?_
      refine va_get (D := (dC, dI)) (ci := 12) (v := .ref (a0 14)) (C := RX12) (T := TX12) (N := 67) hx hb hts zn_X12_castError_X12 hown hK hP 0 rfl rfl 14 (of_decide_eq_true rfl) (hts (.fieldLink RX12 53 "ShortEnoughModel" "step" "[I") zw_X12_castError_1142) (fun _ h9 => h9) rfl dX12_castError_77 ?_
      refine lv_aload_n hx hb dX12_castError_80 rfl (lv_at hl 2 rfl) ?_
      refine va_get (D := (dC, dI)) (ci := 12) (v := .ref (a0 39)) (C := RX12) (T := TX12) (N := 67) hx hb hts zn_X12_castError_X12 hown hK hP 0 rfl rfl 39 (of_decide_eq_true rfl) (hts (.fieldLink RX12 132 "ShortEnoughModel" "tried" "[I") zw_X12_castError_1143) (fun _ h9 => h9) rfl dX12_castError_81 ?_
      refine lv_iload hx hb dX12_castError_84 (lv_at hl 0 rfl) ?_
      obtain ⟨h_5, hfn⟩ := zg_s hfn
      refine va_iald hx hb hK hP 1 0 rfl rfl h_5 dX12_castError_86 ?_
      obtain ⟨h_6, hfn⟩ := zg_s hfn
      refine va_iald hx hb hK hP 2 1 rfl rfl h_6 dX12_castError_87 ?_
      refine lv_i2l (v := (f2 (f1 s_3.toNatClampNeg).toNatClampNeg).toInt64) hx hb dX12_castError_88 rfl ?_
      refine lv_lload_n hx hb dX12_castError_89 rfl (lv_at hl 1 rfl) ?_
      obtain ⟨h_7, hfn⟩ := zd_s hfn
      refine lv_lrem hx hb dX12_castError_90 h_7 ?_
      refine lv_topl (fun x_8 ex_8 => ?_)
      have hfn := zn_s hfn ex_8
      refine lv_lconst (v := 0) hx hb dX12_castError_91 (by decide +kernel) ?_
      refine W.lcmp hx hb dX12_castError_92 ?_
      refine lv_if_ne (tgt := 106) hx hb dX12_castError_93 (of_decide_eq_true rfl) (fun c_9 => ?_) (fun c_9 => ?_)
      · have hfn := (if_neg c_9).symm.trans hfn
        refine lv_aload_n hx hb dX12_castError_106 rfl (lv_at hl 2 rfl) ?_
        refine va_get (D := (dC, dI)) (ci := 12) (v := .ref (a0 40)) (C := RX12) (T := TX12) (N := 67) hx hb hts zn_X12_castError_X12 hown hK hP 0 rfl rfl 40 (of_decide_eq_true rfl) (hts (.fieldLink RX12 135 "ShortEnoughModel" "error" "[J") zw_X12_castError_1146) (fun _ h9 => h9) rfl dX12_castError_107 ?_
        refine lv_iload hx hb dX12_castError_110 (lv_at hl 0 rfl) ?_
        refine va_lald hx hb hK hP 5 4 rfl rfl h_5 dX12_castError_112 ?_
        refine lv_lload_n hx hb dX12_castError_113 rfl (lv_at hl 1 rfl) ?_
        refine lv_ldc2 (v := 2) hx hb hown (hts (.constantLong RX12 383 (2)) zw_X12_castError_1147) dX12_castError_114 ?_
        refine lv_ldiv hx hb dX12_castError_117 (by decide +kernel) ?_
        refine lv_ladd hx hb dX12_castError_118 ?_
        refine lv_topl (fun x_10 ex_10 => ?_)
        have hfn := zn_s hfn ex_10
        have ho := Option.some.inj hfn
        subst ho
        exact zrl hx hb hr hK hP hD hS hQ rfl hlocks dX12_castError_119
      have hfn := (if_pos c_9).symm.trans hfn
      refine lv_aload_n hx hb dX12_castError_96 rfl (lv_at hl 2 rfl) ?_
      refine va_get (D := (dC, dI)) (ci := 12) (v := .ref (a0 40)) (C := RX12) (T := TX12) (N := 67) hx hb hts zn_X12_castError_X12 hown hK hP 0 rfl rfl 40 (of_decide_eq_true rfl) (hts (.fieldLink RX12 135 "ShortEnoughModel" "error" "[J") zw_X12_castError_1146) (fun _ h9 => h9) rfl dX12_castError_97 ?_
      refine lv_iload hx hb dX12_castError_100 (lv_at hl 0 rfl) ?_
      refine va_lald hx hb hK hP 5 4 rfl rfl h_5 dX12_castError_102 ?_
      refine lv_goto (tgt := 119) hx hb dX12_castError_103 (of_decide_eq_true rfl) ?_
      have ho := Option.some.inj hfn
      subst ho
      exact zrl hx hb hr hK hP hD hS hQ rfl hlocks dX12_castError_119
    have hfn := (if_pos c_4).symm.trans hfn
    refine lv_iload_n hx hb dX12_castError_40 rfl (lv_at hl 4 rfl) ?_
    obtain ⟨j_11, ej_11, hfn⟩ := zj_g hfn
    have jp_11 : ∀ (s_11 : Int64) (H : Heap) (locs : List Loc) (ls : Array Slot), j_11 s_11 = some o → va_P (dC, dI) vwCl [(h0, .inr (12, zO a0 b0 c0)), zVi (a0 39) k1 14 f1, zVi (a0 14) k2 8 f2, zVi (a0 20) k3 28 f3, zVi (a0 21) k4 28 f4, zVl (a0 40) k5 14 f5, zVl (a0 22) k6 28 f6, zVl (a0 23) k7 28 f7] H → va_D A [(h0, .inr (12, zO a0 b0 c0)), zVi (a0 39) k1 14 f1, zVi (a0 14) k2 8 f2, zVi (a0 20) k3 28 f3, zVi (a0 21) k4 28 f4, zVl (a0 40) k5 14 f5, zVl (a0 22) k6 28 f6, zVl (a0 23) k7 28 f7] → va_S A s.heap H locs → lv_has ls 6 [(3, .long (f2 (f1 p1.toNatClampNeg).toNatClampNeg).toInt64)] → W p l e (headSpec wsX12_castError ({ frames := 0, cells := 0, slots := 0, locals := 0 })).room s m ([.ref h0, .int p1, .int p2] : List Value).toArray below meth c H locs 0 0 Q (F0 m 59 ls [.long s_11]) := by
      intro s_11 H locs ls hfn hP hD hS hl
      have hfn := zj_s ej_11 hfn
      refine lv_lload_n hx hb dX12_castError_59 rfl (lv_at hl 0 rfl) ?_
      obtain ⟨h_12, hfn⟩ := zd_s hfn
      refine lv_lrem hx hb dX12_castError_60 h_12 ?_
      refine lv_topl (fun x_13 ex_13 => ?_)
      have hfn := zn_s hfn ex_13
      refine lv_lconst (v := 0) hx hb dX12_castError_61 (by decide +kernel) ?_
      refine W.lcmp hx hb dX12_castError_62 ?_
      refine lv_if_ne (tgt := 70) hx hb dX12_castError_63 (of_decide_eq_true rfl) (fun c_14 => ?_) (fun c_14 => ?_)
      · have hfn := (if_neg c_14).symm.trans hfn
        refine lv_lload_n hx hb dX12_castError_70 rfl (lv_at hl 0 rfl) ?_
        refine lv_ldc2 (v := 2) hx hb hown (hts (.constantLong RX12 383 (2)) zw_X12_castError_1147) dX12_castError_71 ?_
        refine lv_ldiv hx hb dX12_castError_74 (by decide +kernel) ?_
        have ho := Option.some.inj hfn
        subst ho
        exact zrl hx hb hr hK hP hD hS hQ rfl hlocks dX12_castError_75
      have hfn := (if_pos c_14).symm.trans hfn
      refine lv_lconst (v := 0) hx hb dX12_castError_66 (by decide +kernel) ?_
      refine lv_goto (tgt := 75) hx hb dX12_castError_67 (of_decide_eq_true rfl) ?_
      have ho := Option.some.inj hfn
      subst ho
      exact zrl hx hb hr hK hP hD hS hQ rfl hlocks dX12_castError_75
    refine lv_if_eq (tgt := 53) hx hb dX12_castError_41 (of_decide_eq_true rfl) (fun c_15 => ?_) (fun c_15 => ?_)
    · have hfn := (if_pos c_15).symm.trans hfn
      refine lv_aload_n hx hb dX12_castError_53 rfl (lv_at hl 2 rfl) ?_
      refine va_get (D := (dC, dI)) (ci := 12) (v := .ref (a0 22)) (C := RX12) (T := TX12) (N := 67) hx hb hts zn_X12_castError_X12 hown hK hP 0 rfl rfl 22 (of_decide_eq_true rfl) (hts (.fieldLink RX12 77 "ShortEnoughModel" "firstV" "[J") zw_X12_castError_1148) (fun _ h9 => h9) rfl dX12_castError_54 ?_
      refine lv_iload_n hx hb dX12_castError_57 rfl (lv_at hl 3 rfl) ?_
      obtain ⟨h_16, hfn⟩ := zg_s hfn
      refine va_lald hx hb hK hP 6 5 rfl rfl h_16 dX12_castError_58 ?_
      exact jp_11 (f6 p1.toNatClampNeg) H locs ls hfn hP hD hS (lv_sub hl [1] rfl)
    have hfn := (if_neg c_15).symm.trans hfn
    refine lv_aload_n hx hb dX12_castError_44 rfl (lv_at hl 2 rfl) ?_
    refine va_get (D := (dC, dI)) (ci := 12) (v := .ref (a0 23)) (C := RX12) (T := TX12) (N := 67) hx hb hts zn_X12_castError_X12 hown hK hP 0 rfl rfl 23 (of_decide_eq_true rfl) (hts (.fieldLink RX12 81 "ShortEnoughModel" "secondV" "[J") zw_X12_castError_1149) (fun _ h9 => h9) rfl dX12_castError_45 ?_
    refine lv_iload_n hx hb dX12_castError_48 rfl (lv_at hl 3 rfl) ?_
    obtain ⟨h_17, hfn⟩ := zg_s hfn
    refine va_lald hx hb hK hP 7 6 rfl rfl h_17 dX12_castError_49 ?_
    refine lv_goto (tgt := 59) hx hb dX12_castError_50 (of_decide_eq_true rfl) ?_
    exact jp_11 (f7 p1.toNatClampNeg) H locs ls hfn hP hD hS (lv_sub hl [1] rfl)
  refine lv_if_eq (tgt := 26) hx hb dX12_castError_14 (of_decide_eq_true rfl) (fun c_18 => ?_) (fun c_18 => ?_)
  · have hfn := (if_pos c_18).symm.trans hfn
    refine lv_aload_n hx hb dX12_castError_26 rfl (lv_at hl 1 rfl) ?_
    refine va_get (D := (dC, dI)) (ci := 12) (v := .ref (a0 20)) (C := RX12) (T := TX12) (N := 67) hx hb hts zn_X12_castError_X12 hown hK hP 0 rfl rfl 20 (of_decide_eq_true rfl) (hts (.fieldLink RX12 71 "ShortEnoughModel" "first" "[I") zw_X12_castError_1144) (fun _ h9 => h9) rfl dX12_castError_27 ?_
    refine lv_iload_n hx hb dX12_castError_30 rfl (lv_at hl 2 rfl) ?_
    obtain ⟨h_19, hfn⟩ := zg_s hfn
    refine va_iald hx hb hK hP 3 2 rfl rfl h_19 dX12_castError_31 ?_
    exact jp_3 (f3 p1.toNatClampNeg) s.heap [] ls hfn hP hD hS (lv_sub hl [0, 1, 2, 3] rfl)
  have hfn := (if_neg c_18).symm.trans hfn
  refine lv_aload_n hx hb dX12_castError_17 rfl (lv_at hl 1 rfl) ?_
  refine va_get (D := (dC, dI)) (ci := 12) (v := .ref (a0 21)) (C := RX12) (T := TX12) (N := 67) hx hb hts zn_X12_castError_X12 hown hK hP 0 rfl rfl 21 (of_decide_eq_true rfl) (hts (.fieldLink RX12 74 "ShortEnoughModel" "second" "[I") zw_X12_castError_1145) (fun _ h9 => h9) rfl dX12_castError_18 ?_
  refine lv_iload_n hx hb dX12_castError_21 rfl (lv_at hl 2 rfl) ?_
  obtain ⟨h_20, hfn⟩ := zg_s hfn
  refine va_iald hx hb hK hP 4 3 rfl rfl h_20 dX12_castError_22 ?_
  refine lv_goto (tgt := 32) hx hb dX12_castError_23 (of_decide_eq_true rfl) ?_
  exact jp_3 (f4 p1.toNatClampNeg) s.heap [] ls hfn hP hD hS (lv_sub hl [0, 1, 2, 3] rfl)
theorem zn_X12_laysError_X12 : ∀ w ∈ wsX120, w ∈ wsX12_laysError := fun _ h => List.mem_cons_of_mem _ (List.mem_append_right _ h)
theorem zw_X12_laysError_1151 : Cond.fieldLink RX12 53 "ShortEnoughModel" "step" "[I" ∈ wsX12_laysError := List.mem_of_getElem? (i := 1) (by decide +kernel)
theorem zw_X12_laysError_1152 : Cond.fieldLink RX12 132 "ShortEnoughModel" "tried" "[I" ∈ wsX12_laysError := List.mem_of_getElem? (i := 2) (by decide +kernel)
theorem zw_X12_laysError_1153 : Cond.constantLong RX12 383 (2) ∈ wsX12_laysError := List.mem_of_getElem? (i := 3) (by decide +kernel)
theorem zw_X12_laysError_1154 : Cond.fieldLink RX12 68 "ShortEnoughModel" "op" "[I" ∈ wsX12_laysError := List.mem_of_getElem? (i := 4) (by decide +kernel)
theorem zw_X12_laysError_1155 : Cond.fieldLink RX12 135 "ShortEnoughModel" "error" "[J" ∈ wsX12_laysError := List.mem_of_getElem? (i := 5) (by decide +kernel)
theorem zw_X12_laysError_1156 : Cond.constantLong RX12 388 (1000) ∈ wsX12_laysError := List.mem_of_getElem? (i := 6) (by decide +kernel)
set_option maxHeartbeats 4000000 in
set_option maxRecDepth 100000 in
theorem zf_X12_laysError (l : Launch) (dC : Nat → ClassId) (dI : Nat → Nat → Nat) (h0 : Nat) (p1 : Int32) (a0 : Nat → Nat) (b0 : Nat → Int32) (c0 : Nat → Int64) (k1 : Nat) (f1 : Nat → Int32) (k2 : Nat) (f2 : Nat → Int32) (k3 : Nat) (f3 : Nat → Int32) (k4 : Nat) (f4 : Nat → Int32) (k5 : Nat) (f5 : Nat → Int32) (k6 : Nat) (f6 : Nat → Int64) (k7 : Nat) (f7 : Nat → Int64) (k8 : Nat) (f8 : Nat → Int64) (k9 : Nat) (f9 : Nat → Int64) (k10 : Nat) (f10 : Nat → Int64) (o : (Nat → Int64)) (hfn : fn_X12_laysError p1 f1 f2 f3 f4 f5 f6 f7 f8 f9 f10 = some o) (sz : Nat) : zMv l yX12_laysError wsX12_laysError ({ frames := 1, cells := 0, slots := 0, locals := 25 }) (dC, dI) vwCl [.ref h0, .int p1] [(h0, .inr (12, zO a0 b0 c0)), zVi (a0 39) k1 14 f1, zVi (a0 14) k2 8 f2, zVi (a0 19) k3 28 f3, zVi (a0 20) k4 28 f4, zVi (a0 21) k5 28 f5, zVl (a0 40) k6 14 f6, zVl (a0 22) k7 28 f7, zVl (a0 23) k8 28 f8, zVl (a0 31) k9 14 f9, zVl (a0 32) k10 14 f10] [(k1, .int), (k2, .int), (k3, .int), (k4, .int), (k5, .int), (k6, .long), (k7, .long), (k8, .long), (k9, .long), (k10, .long)] (fun _ => True) [(h0, .inr (12, zO a0 b0 c0)), zVi (a0 39) k1 14 f1, zVi (a0 14) k2 8 f2, zVi (a0 19) k3 28 f3, zVi (a0 20) k4 28 f4, zVi (a0 21) k5 28 f5, zVl (a0 40) k6 14 o, zVl (a0 22) k7 28 f7, zVl (a0 23) k8 28 f8, zVl (a0 31) k9 14 f9, zVl (a0 32) k10 14 f10] [(k1, .int), (k2, .int), (k3, .int), (k4, .int), (k5, .int), (k6, .long), (k7, .long), (k8, .long), (k9, .long), (k10, .long)] sz := by
  refine zgov (cc := cX12_laysError) (maxL := 12) (ret := none) (C0 := RX12) (lv0 := [(0, .ref h0), (1, .int p1)]) zpl_X12 rfl rfl rfl (Nat.le_of_ble_eq_true rfl) ?_
  intro p e s m below meth c A ls Q hx hb hr hts hown hlocks hml hP hK hD hA hS hl hQ
  unfold fn_X12_laysError at hfn
  refine lv_aload_n hx hb dX12_laysError_0 rfl (lv_at hl 0 rfl) ?_
  refine va_get (D := (dC, dI)) (ci := 12) (v := .ref (a0 14)) (C := RX12) (T := TX12) (N := 67) hx hb hts zn_X12_laysError_X12 hown hK hP 0 rfl rfl 14 (of_decide_eq_true rfl) (hts (.fieldLink RX12 53 "ShortEnoughModel" "step" "[I") zw_X12_laysError_1151) (fun _ h9 => h9) rfl dX12_laysError_1 ?_
  refine lv_aload_n hx hb dX12_laysError_4 rfl (lv_at hl 0 rfl) ?_
  refine va_get (D := (dC, dI)) (ci := 12) (v := .ref (a0 39)) (C := RX12) (T := TX12) (N := 67) hx hb hts zn_X12_laysError_X12 hown hK hP 0 rfl rfl 39 (of_decide_eq_true rfl) (hts (.fieldLink RX12 132 "ShortEnoughModel" "tried" "[I") zw_X12_laysError_1152) (fun _ h9 => h9) rfl dX12_laysError_5 ?_
  refine lv_iload_n hx hb dX12_laysError_8 rfl (lv_at hl 1 rfl) ?_
  obtain ⟨h_1, hfn⟩ := zg_s hfn
  refine va_iald hx hb hK hP 1 0 rfl rfl h_1 dX12_laysError_9 ?_
  obtain ⟨h_2, hfn⟩ := zg_s hfn
  refine va_iald hx hb hK hP 2 1 rfl rfl h_2 dX12_laysError_10 ?_
  refine lv_i2l (v := (f2 (f1 p1.toNatClampNeg).toNatClampNeg).toInt64) hx hb dX12_laysError_11 rfl ?_
  refine lv_ldc2 (v := 2) hx hb hown (hts (.constantLong RX12 383 (2)) zw_X12_laysError_1153) dX12_laysError_12 ?_
  refine lv_ldiv hx hb dX12_laysError_15 (by decide +kernel) ?_
  refine lv_lstore_n (lv' := [(2, .long ((f2 (f1 p1.toNatClampNeg).toNatClampNeg).toInt64 / (2 : Int64))), (0, .ref h0), (1, .int p1)]) hx hb dX12_laysError_16 rfl hl (of_decide_eq_true rfl) rfl (fun ls hl => ?_)
  refine lv_aload_n hx hb dX12_laysError_17 rfl (lv_at hl 1 rfl) ?_
  refine va_get (D := (dC, dI)) (ci := 12) (v := .ref (a0 19)) (C := RX12) (T := TX12) (N := 67) hx hb hts zn_X12_laysError_X12 hown hK hP 0 rfl rfl 19 (of_decide_eq_true rfl) (hts (.fieldLink RX12 68 "ShortEnoughModel" "op" "[I") zw_X12_laysError_1154) (fun _ h9 => h9) rfl dX12_laysError_18 ?_
  refine lv_iload_n hx hb dX12_laysError_21 rfl (lv_at hl 2 rfl) ?_
  obtain ⟨h_3, hfn⟩ := zg_s hfn
  refine va_iald hx hb hK hP 3 2 rfl rfl h_3 dX12_laysError_22 ?_
  refine lv_if_ne (tgt := 34) hx hb dX12_laysError_23 (of_decide_eq_true rfl) (fun c_4 => ?_) (fun c_4 => ?_)
  · have hfn := (if_neg c_4).symm.trans hfn
    refine lv_aload_n hx hb dX12_laysError_34 rfl (lv_at hl 1 rfl) ?_
    refine lv_iload_n hx hb dX12_laysError_35 rfl (lv_at hl 2 rfl) ?_
    refine lv_iconst (v := 0) hx hb dX12_laysError_36 zci_0 ?_
    obtain ⟨o_5, hqo_5, hfn⟩ := zb_s hfn
    refine zcVl (ci := 12) (rest := []) (pc' := 40) (ws' := [(h0, .inr (12, zO a0 b0 c0)), zVi (a0 39) k1 14 f1, zVi (a0 14) k2 8 f2, zVi (a0 19) k3 28 f3, zVi (a0 20) k4 28 f4, zVi (a0 21) k5 28 f5, zVl (a0 40) k6 14 f6, zVl (a0 22) k7 28 f7, zVl (a0 23) k8 28 f8, zVl (a0 31) k9 14 f9, zVl (a0 32) k10 14 f10]) hP hK hD hS hA ⟨hx, hb, hml, hown, hts⟩ (zf_X12_castError l dC dI h0 p1 0 a0 b0 c0 k1 f1 k2 f2 k4 f4 k5 f5 k6 f6 k7 f7 k8 f8 o_5 hqo_5 s.heap.size) (cwV 2 hts gX12_laysError_X12_castError rfl rfl rfl zhd_X12_castError ⟨Nat.le_of_ble_eq_true rfl, Nat.le_of_ble_eq_true rfl⟩) [0, 1, 2, 4, 5, 6, 7, 8] rfl (of_decide_eq_true rfl) [0, 1, 3, 4, 5, 6, 7] rfl rfl rfl rfl hl.1 rfl (Nat.le_of_ble_eq_true rfl) dX12_laysError_37 ⟨Nat.le_of_ble_eq_true rfl, Nat.le_of_ble_eq_true rfl⟩ [some 0, some 1, some 2, none, some 3, some 4, some 5, some 6, some 7] (of_decide_eq_true rfl) (of_decide_eq_true rfl) rfl rfl rfl (fun H locs hP hD hS => ?_)
    refine lv_lstore (lv' := [(4, .long o_5), (2, .long ((f2 (f1 p1.toNatClampNeg).toNatClampNeg).toInt64 / (2 : Int64))), (0, .ref h0), (1, .int p1)]) hx hb dX12_laysError_40 hl (of_decide_eq_true rfl) rfl (fun ls hl => ?_)
    refine lv_aload_n hx hb dX12_laysError_42 rfl (lv_at hl 2 rfl) ?_
    refine lv_iload_n hx hb dX12_laysError_43 rfl (lv_at hl 3 rfl) ?_
    refine lv_iconst (v := 1) hx hb dX12_laysError_44 zci_1 ?_
    obtain ⟨o_9, hqo_9, hfn⟩ := zb_s hfn
    refine zcVl (ci := 12) (rest := []) (pc' := 48) (ws' := [(h0, .inr (12, zO a0 b0 c0)), zVi (a0 39) k1 14 f1, zVi (a0 14) k2 8 f2, zVi (a0 19) k3 28 f3, zVi (a0 20) k4 28 f4, zVi (a0 21) k5 28 f5, zVl (a0 40) k6 14 f6, zVl (a0 22) k7 28 f7, zVl (a0 23) k8 28 f8, zVl (a0 31) k9 14 f9, zVl (a0 32) k10 14 f10]) hP hK hD hS hA ⟨hx, hb, hml, hown, hts⟩ (zf_X12_castError l dC dI h0 p1 1 a0 b0 c0 k1 f1 k2 f2 k4 f4 k5 f5 k6 f6 k7 f7 k8 f8 o_9 hqo_9 H.size) (cwV 2 hts gX12_laysError_X12_castError rfl rfl rfl zhd_X12_castError ⟨Nat.le_of_ble_eq_true rfl, Nat.le_of_ble_eq_true rfl⟩) [0, 1, 2, 4, 5, 6, 7, 8] rfl (of_decide_eq_true rfl) [0, 1, 3, 4, 5, 6, 7] rfl rfl rfl rfl hl.1 rfl (Nat.le_of_ble_eq_true rfl) dX12_laysError_45 ⟨Nat.le_of_ble_eq_true rfl, Nat.le_of_ble_eq_true rfl⟩ [some 0, some 1, some 2, none, some 3, some 4, some 5, some 6, some 7] (of_decide_eq_true rfl) (of_decide_eq_true rfl) rfl rfl rfl (fun H locs hP hD hS => ?_)
    refine lv_lstore (lv' := [(6, .long o_9), (4, .long o_5), (2, .long ((f2 (f1 p1.toNatClampNeg).toNatClampNeg).toInt64 / (2 : Int64))), (0, .ref h0), (1, .int p1)]) hx hb dX12_laysError_48 hl (of_decide_eq_true rfl) rfl (fun ls hl => ?_)
    refine lv_aload_n hx hb dX12_laysError_50 rfl (lv_at hl 3 rfl) ?_
    refine va_get (D := (dC, dI)) (ci := 12) (v := .ref (a0 19)) (C := RX12) (T := TX12) (N := 67) hx hb hts zn_X12_laysError_X12 hown hK hP 0 rfl rfl 19 (of_decide_eq_true rfl) (hts (.fieldLink RX12 68 "ShortEnoughModel" "op" "[I") zw_X12_laysError_1154) (fun _ h9 => h9) rfl dX12_laysError_51 ?_
    refine lv_iload_n hx hb dX12_laysError_54 rfl (lv_at hl 4 rfl) ?_
    refine va_iald hx hb hK hP 3 2 rfl rfl h_3 dX12_laysError_55 ?_
    refine lv_iconst (v := 1) hx hb dX12_laysError_56 zci_1 ?_
    obtain ⟨j_13, ej_13, hfn⟩ := zj_g hfn
    have jp_13 : ∀ (s_13 : Unit) (H : Heap) (locs : List Loc) (ls : Array Slot), j_13 s_13 = some o → va_P (dC, dI) vwCl [(h0, .inr (12, zO a0 b0 c0)), zVi (a0 39) k1 14 f1, zVi (a0 14) k2 8 f2, zVi (a0 19) k3 28 f3, zVi (a0 20) k4 28 f4, zVi (a0 21) k5 28 f5, zVl (a0 40) k6 14 f6, zVl (a0 22) k7 28 f7, zVl (a0 23) k8 28 f8, zVl (a0 31) k9 14 f9, zVl (a0 32) k10 14 f10] H → va_D A [(h0, .inr (12, zO a0 b0 c0)), zVi (a0 39) k1 14 f1, zVi (a0 14) k2 8 f2, zVi (a0 19) k3 28 f3, zVi (a0 20) k4 28 f4, zVi (a0 21) k5 28 f5, zVl (a0 40) k6 14 f6, zVl (a0 22) k7 28 f7, zVl (a0 23) k8 28 f8, zVl (a0 31) k9 14 f9, zVl (a0 32) k10 14 f10] → va_S A s.heap H locs → lv_has ls 12 [(6, .long o_9), (4, .long o_5), (0, .ref h0), (1, .int p1)] → W p l e (headSpec wsX12_laysError ({ frames := 1, cells := 0, slots := 0, locals := 25 })).room s m ([.ref h0, .int p1] : List Value).toArray below meth c H locs 0 0 Q (F0 m 70 ls []) := by
      intro s_13 H locs ls hfn hP hD hS hl
      have hfn := zj_s ej_13 hfn
      refine lv_aload_n hx hb dX12_laysError_70 rfl (lv_at hl 2 rfl) ?_
      refine va_get (D := (dC, dI)) (ci := 12) (v := .ref (a0 40)) (C := RX12) (T := TX12) (N := 67) hx hb hts zn_X12_laysError_X12 hown hK hP 0 rfl rfl 40 (of_decide_eq_true rfl) (hts (.fieldLink RX12 135 "ShortEnoughModel" "error" "[J") zw_X12_laysError_1155) (fun _ h9 => h9) rfl dX12_laysError_71 ?_
      refine lv_iload_n hx hb dX12_laysError_74 rfl (lv_at hl 3 rfl) ?_
      refine lv_lload hx hb dX12_laysError_75 (lv_at hl 1 rfl) ?_
      refine lv_lload hx hb dX12_laysError_77 (lv_at hl 0 rfl) ?_
      refine lv_ladd hx hb dX12_laysError_79 ?_
      obtain ⟨h_14, hfn⟩ := zg_s hfn
      refine va_last hx hb hK hP hD hS 6 5 rfl rfl h_14 dX12_laysError_80 (fun H locs hP hD hS => ?_)
      have hP : va_P (dC, dI) vwCl [(h0, .inr (12, zO a0 b0 c0)), zVi (a0 39) k1 14 f1, zVi (a0 14) k2 8 f2, zVi (a0 19) k3 28 f3, zVi (a0 20) k4 28 f4, zVi (a0 21) k5 28 f5, zVl (a0 40) k6 14 (vp_updL f6 p1.toNatClampNeg (o_5 + o_9)), zVl (a0 22) k7 28 f7, zVl (a0 23) k8 28 f8, zVl (a0 31) k9 14 f9, zVl (a0 32) k10 14 f10] H := hP
      have hD := zDW hD hP rfl
      refine lv_goto (tgt := 191) hx hb dX12_laysError_81 (of_decide_eq_true rfl) ?_
      have ho := Option.some.inj hfn
      subst ho
      exact zrv hx hb hr hK hP hD hS hQ trivial hlocks dX12_laysError_191
    refine lv_icmp_eq (tgt := 70) hx hb dX12_laysError_57 (of_decide_eq_true rfl) (fun c_15 => ?_) (fun c_15 => ?_)
    · have hfn := (if_pos c_15).symm.trans hfn
      exact jp_13 () H locs ls hfn hP hD hS (lv_sub hl [0, 1, 3, 4] rfl)
    have hfn := (if_neg c_15).symm.trans hfn
    refine lv_aload_n hx hb dX12_laysError_60 rfl (lv_at hl 3 rfl) ?_
    refine va_get (D := (dC, dI)) (ci := 12) (v := .ref (a0 19)) (C := RX12) (T := TX12) (N := 67) hx hb hts zn_X12_laysError_X12 hown hK hP 0 rfl rfl 19 (of_decide_eq_true rfl) (hts (.fieldLink RX12 68 "ShortEnoughModel" "op" "[I") zw_X12_laysError_1154) (fun _ h9 => h9) rfl dX12_laysError_61 ?_
    refine lv_iload_n hx hb dX12_laysError_64 rfl (lv_at hl 4 rfl) ?_
    refine va_iald hx hb hK hP 3 2 rfl rfl h_3 dX12_laysError_65 ?_
    refine lv_iconst (v := 2) hx hb dX12_laysError_66 zci_2 ?_
    refine lv_icmp_ne (tgt := 84) hx hb dX12_laysError_67 (of_decide_eq_true rfl) (fun c_16 => ?_) (fun c_16 => ?_)
    · have hfn := (if_neg c_16).symm.trans hfn
      refine lv_aload_n hx hb dX12_laysError_84 rfl (lv_at hl 3 rfl) ?_
      refine va_get (D := (dC, dI)) (ci := 12) (v := .ref (a0 19)) (C := RX12) (T := TX12) (N := 67) hx hb hts zn_X12_laysError_X12 hown hK hP 0 rfl rfl 19 (of_decide_eq_true rfl) (hts (.fieldLink RX12 68 "ShortEnoughModel" "op" "[I") zw_X12_laysError_1154) (fun _ h9 => h9) rfl dX12_laysError_85 ?_
      refine lv_iload_n hx hb dX12_laysError_88 rfl (lv_at hl 4 rfl) ?_
      refine va_iald hx hb hK hP 3 2 rfl rfl h_3 dX12_laysError_89 ?_
      refine lv_iconst (v := 3) hx hb dX12_laysError_90 zci_3 ?_
      refine lv_icmp_ne (tgt := 178) hx hb dX12_laysError_91 (of_decide_eq_true rfl) (fun c_17 => ?_) (fun c_17 => ?_)
      · have hfn := (if_neg c_17).symm.trans hfn
        refine lv_aload_n hx hb dX12_laysError_178 rfl (lv_at hl 3 rfl) ?_
        refine va_get (D := (dC, dI)) (ci := 12) (v := .ref (a0 40)) (C := RX12) (T := TX12) (N := 67) hx hb hts zn_X12_laysError_X12 hown hK hP 0 rfl rfl 40 (of_decide_eq_true rfl) (hts (.fieldLink RX12 135 "ShortEnoughModel" "error" "[J") zw_X12_laysError_1155) (fun _ h9 => h9) rfl dX12_laysError_179 ?_
        refine lv_iload_n hx hb dX12_laysError_182 rfl (lv_at hl 4 rfl) ?_
        refine lv_lload hx hb dX12_laysError_183 (lv_at hl 1 rfl) ?_
        refine lv_lload hx hb dX12_laysError_185 (lv_at hl 0 rfl) ?_
        obtain ⟨o_18, hqo_18, hfn⟩ := zb_s hfn
        refine zcSl (rest := [.int p1, .ref (a0 40)]) (pc' := 190) (ws' := [(h0, .inr (12, zO a0 b0 c0)), zVi (a0 39) k1 14 f1, zVi (a0 14) k2 8 f2, zVi (a0 19) k3 28 f3, zVi (a0 20) k4 28 f4, zVi (a0 21) k5 28 f5, zVl (a0 40) k6 14 f6, zVl (a0 22) k7 28 f7, zVl (a0 23) k8 28 f8, zVl (a0 31) k9 14 f9, zVl (a0 32) k10 14 f10]) hP hK hD hS hA ⟨hx, hb, hml, hown, hts⟩ (zf_X12_greater l dC dI o_5 o_9 o_18 hqo_18 H.size) (va_cwS 2 hts gX12_laysError_X12_greater rfl rfl rfl zhd_X12_greater.2 ⟨Nat.le_of_ble_eq_true rfl, Nat.le_of_ble_eq_true rfl⟩) [] rfl (of_decide_eq_true rfl) [] rfl rfl hl.1 rfl (Nat.le_of_ble_eq_true rfl) dX12_laysError_187 ⟨Nat.le_of_ble_eq_true rfl, Nat.le_of_ble_eq_true rfl⟩ [] (of_decide_eq_true rfl) (of_decide_eq_true rfl) rfl rfl rfl (fun H locs hP hD hS => ?_)
        refine va_last hx hb hK hP hD hS 6 5 rfl rfl h_1 dX12_laysError_190 (fun H locs hP hD hS => ?_)
        have hP : va_P (dC, dI) vwCl [(h0, .inr (12, zO a0 b0 c0)), zVi (a0 39) k1 14 f1, zVi (a0 14) k2 8 f2, zVi (a0 19) k3 28 f3, zVi (a0 20) k4 28 f4, zVi (a0 21) k5 28 f5, zVl (a0 40) k6 14 (vp_updL f6 p1.toNatClampNeg o_18), zVl (a0 22) k7 28 f7, zVl (a0 23) k8 28 f8, zVl (a0 31) k9 14 f9, zVl (a0 32) k10 14 f10] H := hP
        have hD := zDW hD hP rfl
        have ho := Option.some.inj hfn
        subst ho
        exact zrv hx hb hr hK hP hD hS hQ trivial hlocks dX12_laysError_191
      have hfn := (if_pos c_17).symm.trans hfn
      refine lv_aload_n hx hb dX12_laysError_94 rfl (lv_at hl 3 rfl) ?_
      refine lv_iload_n hx hb dX12_laysError_95 rfl (lv_at hl 4 rfl) ?_
      refine lv_iconst (v := 0) hx hb dX12_laysError_96 zci_0 ?_
      obtain ⟨o_22, hqo_22, hfn⟩ := zb_s hfn
      refine zcVl (ci := 12) (rest := []) (pc' := 100) (ws' := [(h0, .inr (12, zO a0 b0 c0)), zVi (a0 39) k1 14 f1, zVi (a0 14) k2 8 f2, zVi (a0 19) k3 28 f3, zVi (a0 20) k4 28 f4, zVi (a0 21) k5 28 f5, zVl (a0 40) k6 14 f6, zVl (a0 22) k7 28 f7, zVl (a0 23) k8 28 f8, zVl (a0 31) k9 14 f9, zVl (a0 32) k10 14 f10]) hP hK hD hS hA ⟨hx, hb, hml, hown, hts⟩ (zf_X12_lowOf l dC dI h0 p1 0 a0 b0 c0 k4 f4 k5 f5 k9 f9 k7 f7 k8 f8 o_22 hqo_22 H.size) (cwV 2 hts gX12_laysError_X12_lowOf rfl rfl rfl zhd_X12_lowOf ⟨Nat.le_of_ble_eq_true rfl, Nat.le_of_ble_eq_true rfl⟩) [0, 4, 5, 9, 7, 8] rfl (of_decide_eq_true rfl) [3, 4, 8, 6, 7] rfl rfl rfl rfl hl.1 rfl (Nat.le_of_ble_eq_true rfl) dX12_laysError_97 ⟨Nat.le_of_ble_eq_true rfl, Nat.le_of_ble_eq_true rfl⟩ [some 0, none, none, none, some 1, some 2, none, some 4, some 5, some 3] (of_decide_eq_true rfl) (of_decide_eq_true rfl) rfl rfl rfl (fun H locs hP hD hS => ?_)
      obtain ⟨o_26, hqo_26, hfn⟩ := zb_s hfn
      refine zcSl (rest := []) (pc' := 103) (ws' := [(h0, .inr (12, zO a0 b0 c0)), zVi (a0 39) k1 14 f1, zVi (a0 14) k2 8 f2, zVi (a0 19) k3 28 f3, zVi (a0 20) k4 28 f4, zVi (a0 21) k5 28 f5, zVl (a0 40) k6 14 f6, zVl (a0 22) k7 28 f7, zVl (a0 23) k8 28 f8, zVl (a0 31) k9 14 f9, zVl (a0 32) k10 14 f10]) hP hK hD hS hA ⟨hx, hb, hml, hown, hts⟩ (zf_X12_amount l dC dI o_22 o_26 hqo_26 H.size) (va_cwS 1 hts gX12_laysError_X12_amount rfl rfl rfl zhd_X12_amount.2 ⟨Nat.le_of_ble_eq_true rfl, Nat.le_of_ble_eq_true rfl⟩) [] rfl (of_decide_eq_true rfl) [] rfl rfl hl.1 rfl (Nat.le_of_ble_eq_true rfl) dX12_laysError_100 ⟨Nat.le_of_ble_eq_true rfl, Nat.le_of_ble_eq_true rfl⟩ [] (of_decide_eq_true rfl) (of_decide_eq_true rfl) rfl rfl rfl (fun H locs hP hD hS => ?_)
      refine lv_aload_n hx hb dX12_laysError_103 rfl (lv_at hl 3 rfl) ?_
      refine lv_iload_n hx hb dX12_laysError_104 rfl (lv_at hl 4 rfl) ?_
      refine lv_iconst (v := 0) hx hb dX12_laysError_105 zci_0 ?_
      obtain ⟨o_30, hqo_30, hfn⟩ := zb_s hfn
      refine zcVl (ci := 12) (rest := [.long o_26]) (pc' := 109) (ws' := [(h0, .inr (12, zO a0 b0 c0)), zVi (a0 39) k1 14 f1, zVi (a0 14) k2 8 f2, zVi (a0 19) k3 28 f3, zVi (a0 20) k4 28 f4, zVi (a0 21) k5 28 f5, zVl (a0 40) k6 14 f6, zVl (a0 22) k7 28 f7, zVl (a0 23) k8 28 f8, zVl (a0 31) k9 14 f9, zVl (a0 32) k10 14 f10]) hP hK hD hS hA ⟨hx, hb, hml, hown, hts⟩ (zf_X12_highOf l dC dI h0 p1 0 a0 b0 c0 k4 f4 k5 f5 k10 f10 k7 f7 k8 f8 o_30 hqo_30 H.size) (cwV 2 hts gX12_laysError_X12_highOf rfl rfl rfl zhd_X12_highOf ⟨Nat.le_of_ble_eq_true rfl, Nat.le_of_ble_eq_true rfl⟩) [0, 4, 5, 10, 7, 8] rfl (of_decide_eq_true rfl) [3, 4, 9, 6, 7] rfl rfl rfl rfl hl.1 rfl (Nat.le_of_ble_eq_true rfl) dX12_laysError_106 ⟨Nat.le_of_ble_eq_true rfl, Nat.le_of_ble_eq_true rfl⟩ [some 0, none, none, none, some 1, some 2, none, some 4, some 5, none, some 3] (of_decide_eq_true rfl) (of_decide_eq_true rfl) rfl rfl rfl (fun H locs hP hD hS => ?_)
      obtain ⟨o_34, hqo_34, hfn⟩ := zb_s hfn
      refine zcSl (rest := [.long o_26]) (pc' := 112) (ws' := [(h0, .inr (12, zO a0 b0 c0)), zVi (a0 39) k1 14 f1, zVi (a0 14) k2 8 f2, zVi (a0 19) k3 28 f3, zVi (a0 20) k4 28 f4, zVi (a0 21) k5 28 f5, zVl (a0 40) k6 14 f6, zVl (a0 22) k7 28 f7, zVl (a0 23) k8 28 f8, zVl (a0 31) k9 14 f9, zVl (a0 32) k10 14 f10]) hP hK hD hS hA ⟨hx, hb, hml, hown, hts⟩ (zf_X12_amount l dC dI o_30 o_34 hqo_34 H.size) (va_cwS 1 hts gX12_laysError_X12_amount rfl rfl rfl zhd_X12_amount.2 ⟨Nat.le_of_ble_eq_true rfl, Nat.le_of_ble_eq_true rfl⟩) [] rfl (of_decide_eq_true rfl) [] rfl rfl hl.1 rfl (Nat.le_of_ble_eq_true rfl) dX12_laysError_109 ⟨Nat.le_of_ble_eq_true rfl, Nat.le_of_ble_eq_true rfl⟩ [] (of_decide_eq_true rfl) (of_decide_eq_true rfl) rfl rfl rfl (fun H locs hP hD hS => ?_)
      obtain ⟨o_38, hqo_38, hfn⟩ := zb_s hfn
      refine zcSl (rest := []) (pc' := 115) (ws' := [(h0, .inr (12, zO a0 b0 c0)), zVi (a0 39) k1 14 f1, zVi (a0 14) k2 8 f2, zVi (a0 19) k3 28 f3, zVi (a0 20) k4 28 f4, zVi (a0 21) k5 28 f5, zVl (a0 40) k6 14 f6, zVl (a0 22) k7 28 f7, zVl (a0 23) k8 28 f8, zVl (a0 31) k9 14 f9, zVl (a0 32) k10 14 f10]) hP hK hD hS hA ⟨hx, hb, hml, hown, hts⟩ (zf_X12_greater l dC dI o_26 o_34 o_38 hqo_38 H.size) (va_cwS 2 hts gX12_laysError_X12_greater rfl rfl rfl zhd_X12_greater.2 ⟨Nat.le_of_ble_eq_true rfl, Nat.le_of_ble_eq_true rfl⟩) [] rfl (of_decide_eq_true rfl) [] rfl rfl hl.1 rfl (Nat.le_of_ble_eq_true rfl) dX12_laysError_112 ⟨Nat.le_of_ble_eq_true rfl, Nat.le_of_ble_eq_true rfl⟩ [] (of_decide_eq_true rfl) (of_decide_eq_true rfl) rfl rfl rfl (fun H locs hP hD hS => ?_)
      refine lv_lstore (lv' := [(8, .long o_38), (6, .long o_9), (4, .long o_5), (2, .long ((f2 (f1 p1.toNatClampNeg).toNatClampNeg).toInt64 / (2 : Int64))), (0, .ref h0), (1, .int p1)]) hx hb dX12_laysError_115 hl (of_decide_eq_true rfl) rfl (fun ls hl => ?_)
      refine lv_aload_n hx hb dX12_laysError_117 rfl (lv_at hl 4 rfl) ?_
      refine lv_iload_n hx hb dX12_laysError_118 rfl (lv_at hl 5 rfl) ?_
      refine lv_iconst (v := 1) hx hb dX12_laysError_119 zci_1 ?_
      obtain ⟨o_42, hqo_42, hfn⟩ := zb_s hfn
      refine zcVl (ci := 12) (rest := []) (pc' := 123) (ws' := [(h0, .inr (12, zO a0 b0 c0)), zVi (a0 39) k1 14 f1, zVi (a0 14) k2 8 f2, zVi (a0 19) k3 28 f3, zVi (a0 20) k4 28 f4, zVi (a0 21) k5 28 f5, zVl (a0 40) k6 14 f6, zVl (a0 22) k7 28 f7, zVl (a0 23) k8 28 f8, zVl (a0 31) k9 14 f9, zVl (a0 32) k10 14 f10]) hP hK hD hS hA ⟨hx, hb, hml, hown, hts⟩ (zf_X12_lowOf l dC dI h0 p1 1 a0 b0 c0 k4 f4 k5 f5 k9 f9 k7 f7 k8 f8 o_42 hqo_42 H.size) (cwV 2 hts gX12_laysError_X12_lowOf rfl rfl rfl zhd_X12_lowOf ⟨Nat.le_of_ble_eq_true rfl, Nat.le_of_ble_eq_true rfl⟩) [0, 4, 5, 9, 7, 8] rfl (of_decide_eq_true rfl) [3, 4, 8, 6, 7] rfl rfl rfl rfl hl.1 rfl (Nat.le_of_ble_eq_true rfl) dX12_laysError_120 ⟨Nat.le_of_ble_eq_true rfl, Nat.le_of_ble_eq_true rfl⟩ [some 0, none, none, none, some 1, some 2, none, some 4, some 5, some 3] (of_decide_eq_true rfl) (of_decide_eq_true rfl) rfl rfl rfl (fun H locs hP hD hS => ?_)
      obtain ⟨o_46, hqo_46, hfn⟩ := zb_s hfn
      refine zcSl (rest := []) (pc' := 126) (ws' := [(h0, .inr (12, zO a0 b0 c0)), zVi (a0 39) k1 14 f1, zVi (a0 14) k2 8 f2, zVi (a0 19) k3 28 f3, zVi (a0 20) k4 28 f4, zVi (a0 21) k5 28 f5, zVl (a0 40) k6 14 f6, zVl (a0 22) k7 28 f7, zVl (a0 23) k8 28 f8, zVl (a0 31) k9 14 f9, zVl (a0 32) k10 14 f10]) hP hK hD hS hA ⟨hx, hb, hml, hown, hts⟩ (zf_X12_amount l dC dI o_42 o_46 hqo_46 H.size) (va_cwS 1 hts gX12_laysError_X12_amount rfl rfl rfl zhd_X12_amount.2 ⟨Nat.le_of_ble_eq_true rfl, Nat.le_of_ble_eq_true rfl⟩) [] rfl (of_decide_eq_true rfl) [] rfl rfl hl.1 rfl (Nat.le_of_ble_eq_true rfl) dX12_laysError_123 ⟨Nat.le_of_ble_eq_true rfl, Nat.le_of_ble_eq_true rfl⟩ [] (of_decide_eq_true rfl) (of_decide_eq_true rfl) rfl rfl rfl (fun H locs hP hD hS => ?_)
      refine lv_aload_n hx hb dX12_laysError_126 rfl (lv_at hl 4 rfl) ?_
      refine lv_iload_n hx hb dX12_laysError_127 rfl (lv_at hl 5 rfl) ?_
      refine lv_iconst (v := 1) hx hb dX12_laysError_128 zci_1 ?_
      obtain ⟨o_50, hqo_50, hfn⟩ := zb_s hfn
      refine zcVl (ci := 12) (rest := [.long o_46]) (pc' := 132) (ws' := [(h0, .inr (12, zO a0 b0 c0)), zVi (a0 39) k1 14 f1, zVi (a0 14) k2 8 f2, zVi (a0 19) k3 28 f3, zVi (a0 20) k4 28 f4, zVi (a0 21) k5 28 f5, zVl (a0 40) k6 14 f6, zVl (a0 22) k7 28 f7, zVl (a0 23) k8 28 f8, zVl (a0 31) k9 14 f9, zVl (a0 32) k10 14 f10]) hP hK hD hS hA ⟨hx, hb, hml, hown, hts⟩ (zf_X12_highOf l dC dI h0 p1 1 a0 b0 c0 k4 f4 k5 f5 k10 f10 k7 f7 k8 f8 o_50 hqo_50 H.size) (cwV 2 hts gX12_laysError_X12_highOf rfl rfl rfl zhd_X12_highOf ⟨Nat.le_of_ble_eq_true rfl, Nat.le_of_ble_eq_true rfl⟩) [0, 4, 5, 10, 7, 8] rfl (of_decide_eq_true rfl) [3, 4, 9, 6, 7] rfl rfl rfl rfl hl.1 rfl (Nat.le_of_ble_eq_true rfl) dX12_laysError_129 ⟨Nat.le_of_ble_eq_true rfl, Nat.le_of_ble_eq_true rfl⟩ [some 0, none, none, none, some 1, some 2, none, some 4, some 5, none, some 3] (of_decide_eq_true rfl) (of_decide_eq_true rfl) rfl rfl rfl (fun H locs hP hD hS => ?_)
      obtain ⟨o_54, hqo_54, hfn⟩ := zb_s hfn
      refine zcSl (rest := [.long o_46]) (pc' := 135) (ws' := [(h0, .inr (12, zO a0 b0 c0)), zVi (a0 39) k1 14 f1, zVi (a0 14) k2 8 f2, zVi (a0 19) k3 28 f3, zVi (a0 20) k4 28 f4, zVi (a0 21) k5 28 f5, zVl (a0 40) k6 14 f6, zVl (a0 22) k7 28 f7, zVl (a0 23) k8 28 f8, zVl (a0 31) k9 14 f9, zVl (a0 32) k10 14 f10]) hP hK hD hS hA ⟨hx, hb, hml, hown, hts⟩ (zf_X12_amount l dC dI o_50 o_54 hqo_54 H.size) (va_cwS 1 hts gX12_laysError_X12_amount rfl rfl rfl zhd_X12_amount.2 ⟨Nat.le_of_ble_eq_true rfl, Nat.le_of_ble_eq_true rfl⟩) [] rfl (of_decide_eq_true rfl) [] rfl rfl hl.1 rfl (Nat.le_of_ble_eq_true rfl) dX12_laysError_132 ⟨Nat.le_of_ble_eq_true rfl, Nat.le_of_ble_eq_true rfl⟩ [] (of_decide_eq_true rfl) (of_decide_eq_true rfl) rfl rfl rfl (fun H locs hP hD hS => ?_)
      obtain ⟨o_58, hqo_58, hfn⟩ := zb_s hfn
      refine zcSl (rest := []) (pc' := 138) (ws' := [(h0, .inr (12, zO a0 b0 c0)), zVi (a0 39) k1 14 f1, zVi (a0 14) k2 8 f2, zVi (a0 19) k3 28 f3, zVi (a0 20) k4 28 f4, zVi (a0 21) k5 28 f5, zVl (a0 40) k6 14 f6, zVl (a0 22) k7 28 f7, zVl (a0 23) k8 28 f8, zVl (a0 31) k9 14 f9, zVl (a0 32) k10 14 f10]) hP hK hD hS hA ⟨hx, hb, hml, hown, hts⟩ (zf_X12_greater l dC dI o_46 o_54 o_58 hqo_58 H.size) (va_cwS 2 hts gX12_laysError_X12_greater rfl rfl rfl zhd_X12_greater.2 ⟨Nat.le_of_ble_eq_true rfl, Nat.le_of_ble_eq_true rfl⟩) [] rfl (of_decide_eq_true rfl) [] rfl rfl hl.1 rfl (Nat.le_of_ble_eq_true rfl) dX12_laysError_135 ⟨Nat.le_of_ble_eq_true rfl, Nat.le_of_ble_eq_true rfl⟩ [] (of_decide_eq_true rfl) (of_decide_eq_true rfl) rfl rfl rfl (fun H locs hP hD hS => ?_)
      refine lv_lstore (lv' := [(10, .long o_58), (8, .long o_38), (6, .long o_9), (4, .long o_5), (2, .long ((f2 (f1 p1.toNatClampNeg).toNatClampNeg).toInt64 / (2 : Int64))), (0, .ref h0), (1, .int p1)]) hx hb dX12_laysError_138 hl (of_decide_eq_true rfl) rfl (fun ls hl => ?_)
      refine lv_aload_n hx hb dX12_laysError_140 rfl (lv_at hl 5 rfl) ?_
      refine va_get (D := (dC, dI)) (ci := 12) (v := .ref (a0 40)) (C := RX12) (T := TX12) (N := 67) hx hb hts zn_X12_laysError_X12 hown hK hP 0 rfl rfl 40 (of_decide_eq_true rfl) (hts (.fieldLink RX12 135 "ShortEnoughModel" "error" "[J") zw_X12_laysError_1155) (fun _ h9 => h9) rfl dX12_laysError_141 ?_
      refine lv_iload_n hx hb dX12_laysError_144 rfl (lv_at hl 6 rfl) ?_
      refine lv_lload hx hb dX12_laysError_145 (lv_at hl 1 rfl) ?_
      refine lv_lload hx hb dX12_laysError_147 (lv_at hl 2 rfl) ?_
      refine lv_lmul hx hb dX12_laysError_149 ?_
      refine lv_lload hx hb dX12_laysError_150 (lv_at hl 0 rfl) ?_
      refine lv_lload hx hb dX12_laysError_152 (lv_at hl 3 rfl) ?_
      refine lv_lmul hx hb dX12_laysError_154 ?_
      refine lv_ladd hx hb dX12_laysError_155 ?_
      refine lv_lload hx hb dX12_laysError_156 (lv_at hl 3 rfl) ?_
      refine lv_lload hx hb dX12_laysError_158 (lv_at hl 2 rfl) ?_
      refine lv_lmul hx hb dX12_laysError_160 ?_
      refine lv_ladd hx hb dX12_laysError_161 ?_
      refine lv_lneg hx hb dX12_laysError_162 ?_
      refine lv_ldc2 (v := 1000) hx hb hown (hts (.constantLong RX12 388 (1000)) zw_X12_laysError_1156) dX12_laysError_163 ?_
      obtain ⟨o_62, hqo_62, hfn⟩ := zb_s hfn
      refine zcSl (rest := [.int p1, .ref (a0 40)]) (pc' := 169) (ws' := [(h0, .inr (12, zO a0 b0 c0)), zVi (a0 39) k1 14 f1, zVi (a0 14) k2 8 f2, zVi (a0 19) k3 28 f3, zVi (a0 20) k4 28 f4, zVi (a0 21) k5 28 f5, zVl (a0 40) k6 14 f6, zVl (a0 22) k7 28 f7, zVl (a0 23) k8 28 f8, zVl (a0 31) k9 14 f9, zVl (a0 32) k10 14 f10]) hP hK hD hS hA ⟨hx, hb, hml, hown, hts⟩ (zf_X12_floor l dC dI (-(((o_38 * o_9) + (o_58 * o_5)) + (o_5 * o_9))) (1000 : Int64) o_62 hqo_62 H.size) (va_cwS 2 hts gX12_laysError_X12_floor rfl rfl rfl zhd_X12_floor.2 ⟨Nat.le_of_ble_eq_true rfl, Nat.le_of_ble_eq_true rfl⟩) [] rfl (of_decide_eq_true rfl) [] rfl rfl hl.1 rfl (Nat.le_of_ble_eq_true rfl) dX12_laysError_166 ⟨Nat.le_of_ble_eq_true rfl, Nat.le_of_ble_eq_true rfl⟩ [] (of_decide_eq_true rfl) (of_decide_eq_true rfl) rfl rfl rfl (fun H locs hP hD hS => ?_)
      refine lv_lneg hx hb dX12_laysError_169 ?_
      refine lv_lload_n hx hb dX12_laysError_170 rfl (lv_at hl 4 rfl) ?_
      refine lv_ladd hx hb dX12_laysError_171 ?_
      refine lv_topl (fun x_66 ex_66 => ?_)
      have hfn := zn_s hfn ex_66
      refine lv_lconst (v := 1) hx hb dX12_laysError_172 (by decide +kernel) ?_
      refine lv_ladd hx hb dX12_laysError_173 ?_
      refine va_last hx hb hK hP hD hS 6 5 rfl rfl h_1 dX12_laysError_174 (fun H locs hP hD hS => ?_)
      have hP : va_P (dC, dI) vwCl [(h0, .inr (12, zO a0 b0 c0)), zVi (a0 39) k1 14 f1, zVi (a0 14) k2 8 f2, zVi (a0 19) k3 28 f3, zVi (a0 20) k4 28 f4, zVi (a0 21) k5 28 f5, zVl (a0 40) k6 14 (vp_updL f6 p1.toNatClampNeg (x_66 + (1 : Int64))), zVl (a0 22) k7 28 f7, zVl (a0 23) k8 28 f8, zVl (a0 31) k9 14 f9, zVl (a0 32) k10 14 f10] H := hP
      have hD := zDW hD hP rfl
      refine lv_goto (tgt := 191) hx hb dX12_laysError_175 (of_decide_eq_true rfl) ?_
      have ho := Option.some.inj hfn
      subst ho
      exact zrv hx hb hr hK hP hD hS hQ trivial hlocks dX12_laysError_191
    have hfn := (if_pos c_16).symm.trans hfn
    exact jp_13 () H locs ls hfn hP hD hS (lv_sub hl [0, 1, 3, 4] rfl)
  have hfn := (if_pos c_4).symm.trans hfn
  refine lv_aload_n hx hb dX12_laysError_26 rfl (lv_at hl 1 rfl) ?_
  refine va_get (D := (dC, dI)) (ci := 12) (v := .ref (a0 40)) (C := RX12) (T := TX12) (N := 67) hx hb hts zn_X12_laysError_X12 hown hK hP 0 rfl rfl 40 (of_decide_eq_true rfl) (hts (.fieldLink RX12 135 "ShortEnoughModel" "error" "[J") zw_X12_laysError_1155) (fun _ h9 => h9) rfl dX12_laysError_27 ?_
  refine lv_iload_n hx hb dX12_laysError_30 rfl (lv_at hl 2 rfl) ?_
  refine lv_lload_n hx hb dX12_laysError_31 rfl (lv_at hl 0 rfl) ?_
  refine va_last hx hb hK hP hD hS 6 5 rfl rfl h_1 dX12_laysError_32 (fun H locs hP hD hS => ?_)
  obtain ⟨g_67, eg_67⟩ : ∃ g : Nat → Int64, g = (vp_updL f6 p1.toNatClampNeg ((f2 (f1 p1.toNatClampNeg).toNatClampNeg).toInt64 / (2 : Int64))) := ⟨_, rfl⟩
  have hfn := zn_s hfn eg_67
  have hP : va_P (dC, dI) vwCl [(h0, .inr (12, zO a0 b0 c0)), zVi (a0 39) k1 14 f1, zVi (a0 14) k2 8 f2, zVi (a0 19) k3 28 f3, zVi (a0 20) k4 28 f4, zVi (a0 21) k5 28 f5, zVl (a0 40) k6 14 g_67, zVl (a0 22) k7 28 f7, zVl (a0 23) k8 28 f8, zVl (a0 31) k9 14 f9, zVl (a0 32) k10 14 f10] H := by rw [eg_67]; exact hP
  have hD : va_D A [(h0, .inr (12, zO a0 b0 c0)), zVi (a0 39) k1 14 f1, zVi (a0 14) k2 8 f2, zVi (a0 19) k3 28 f3, zVi (a0 20) k4 28 f4, zVi (a0 21) k5 28 f5, zVl (a0 40) k6 14 g_67, zVl (a0 22) k7 28 f7, zVl (a0 23) k8 28 f8, zVl (a0 31) k9 14 f9, zVl (a0 32) k10 14 f10] := by rw [eg_67]; exact hD
  have ho := Option.some.inj hfn
  subst ho
  exact zrv hx hb hr hK hP hD hS hQ trivial hlocks dX12_laysError_33
theorem zn_X12_passes_X12 : ∀ w ∈ wsX120, w ∈ wsX12_passes := fun _ h => List.mem_cons_of_mem _ (List.mem_append_right _ h)
theorem zw_X12_passes_1158 : Cond.fieldLink RX12 138 "ShortEnoughModel" "failsAt" "I" ∈ wsX12_passes := List.mem_of_getElem? (i := 1) (by decide +kernel)
theorem zw_X12_passes_1159 : Cond.fieldLink RX12 141 "ShortEnoughModel" "failsWhy" "I" ∈ wsX12_passes := List.mem_of_getElem? (i := 2) (by decide +kernel)
theorem zw_X12_passes_1160 : Cond.fieldLink RX12 62 "ShortEnoughModel" "numbers" "[I" ∈ wsX12_passes := List.mem_of_getElem? (i := 3) (by decide +kernel)
theorem zw_X12_passes_1161 : Cond.fieldLink RX12 135 "ShortEnoughModel" "error" "[J" ∈ wsX12_passes := List.mem_of_getElem? (i := 4) (by decide +kernel)
theorem zw_X12_passes_1162 : Cond.fieldLink RX12 56 "ShortEnoughModel" "most" "[I" ∈ wsX12_passes := List.mem_of_getElem? (i := 5) (by decide +kernel)
theorem zw_X12_passes_1163 : Cond.fieldLink RX12 132 "ShortEnoughModel" "tried" "[I" ∈ wsX12_passes := List.mem_of_getElem? (i := 6) (by decide +kernel)
theorem zw_X12_passes_1164 : Cond.fieldLink RX12 90 "ShortEnoughModel" "within" "[I" ∈ wsX12_passes := List.mem_of_getElem? (i := 7) (by decide +kernel)
set_option maxHeartbeats 4000000 in
set_option maxRecDepth 100000 in
theorem zf_X12_passes (l : Launch) (dC : Nat → ClassId) (dI : Nat → Nat → Nat) (h0 : Nat) (a0 : Nat → Nat) (b0 : Nat → Int32) (c0 : Nat → Int64) (k1 : Nat) (f1 : Nat → Int32) (k2 : Nat) (f2 : Nat → Int32) (k3 : Nat) (f3 : Nat → Int32) (k4 : Nat) (f4 : Nat → Int32) (k5 : Nat) (f5 : Nat → Int64) (k6 : Nat) (f6 : Nat → Int64) (k7 : Nat) (f7 : Nat → Int64) (k8 : Nat) (f8 : Nat → Int64) (k9 : Nat) (f9 : Nat → Int32) (k10 : Nat) (f10 : Nat → Int32) (k11 : Nat) (f11 : Nat → Int64) (k12 : Nat) (f12 : Nat → Int32) (k13 : Nat) (f13 : Nat → Int32) (o : Int32 × Int32 × Int32 × (Nat → Int64) × (Nat → Int64) × (Nat → Int64)) (hfn : fn_X12_passes (b0 33) (c0 34) f1 f2 f3 f4 f5 f6 f7 f8 f9 f10 f11 f12 f13 = some o) (sz : Nat) : zMi l yX12_passes wsX12_passes ({ frames := 4, cells := 0, slots := 0, locals := 113 }) (dC, dI) vwCl [.ref h0] [(h0, .inr (12, zO a0 b0 c0)), zVi (a0 17) k1 2 f1, zVi (a0 19) k2 28 f2, zVi (a0 20) k3 28 f3, zVi (a0 21) k4 28 f4, zVl (a0 31) k5 14 f5, zVl (a0 22) k6 28 f6, zVl (a0 23) k7 28 f7, zVl (a0 32) k8 14 f8, zVi (a0 39) k9 14 f9, zVi (a0 14) k10 8 f10, zVl (a0 40) k11 14 f11, zVi (a0 15) k12 8 f12, zVi (a0 26) k13 28 f13] [(k1, .int), (k2, .int), (k3, .int), (k4, .int), (k5, .long), (k6, .long), (k7, .long), (k8, .long), (k9, .int), (k10, .int), (k11, .long), (k12, .int), (k13, .int)] (fun r _ => r = o.1 ∧ narrow .boolean (.int o.1) = .int o.1) [(h0, .inr (12, zO a0 (zI (zI b0 41 o.2.1) 42 o.2.2.1) c0)), zVi (a0 17) k1 2 f1, zVi (a0 19) k2 28 f2, zVi (a0 20) k3 28 f3, zVi (a0 21) k4 28 f4, zVl (a0 31) k5 14 o.2.2.2.1, zVl (a0 22) k6 28 f6, zVl (a0 23) k7 28 f7, zVl (a0 32) k8 14 o.2.2.2.2.1, zVi (a0 39) k9 14 f9, zVi (a0 14) k10 8 f10, zVl (a0 40) k11 14 o.2.2.2.2.2, zVi (a0 15) k12 8 f12, zVi (a0 26) k13 28 f13] [(k1, .int), (k2, .int), (k3, .int), (k4, .int), (k5, .long), (k6, .long), (k7, .long), (k8, .long), (k9, .int), (k10, .int), (k11, .long), (k12, .int), (k13, .int)] sz := by
  refine zgoi (cc := cX12_passes) (maxL := 2) (ret := (some .boolean)) (C0 := RX12) (lv0 := [(0, .ref h0)]) zpl_X12 rfl rfl rfl (Nat.le_of_ble_eq_true rfl) ?_
  intro p e s m below meth c A ls Q hx hb hr hts hown hlocks hml hP hK hD hA hS hl hQ
  unfold fn_X12_passes at hfn
  refine lv_aload_n hx hb dX12_passes_0 rfl (lv_at hl 0 rfl) ?_
  refine lv_bipush (v := (-2)) hx hb dX12_passes_1 zcb_m2 ?_
  refine va_put (D := (dC, dI)) (ci := 12) (v := .int (-2)) (ty := .int) (C := RX12) (T := TX12) (N := 67) hx hb hts zn_X12_passes_X12 tyX12 tyX12_ok nmX12 hown hK hP hD hS 0 rfl rfl 41 (of_decide_eq_true rfl) (hts (.fieldLink RX12 138 "ShortEnoughModel" "failsAt" "I") zw_X12_passes_1158) (fun _ h9 => h9) rfl (tyX12_ok 41 (of_decide_eq_true rfl)) rfl rfl (Nat.le_of_ble_eq_true rfl) dX12_passes_3 (fun H locs hP hD hS => ?_)
  have hP : va_P (dC, dI) vwCl [(h0, .inr (12, zO a0 (zI b0 41 (-2)) c0)), zVi (a0 17) k1 2 f1, zVi (a0 19) k2 28 f2, zVi (a0 20) k3 28 f3, zVi (a0 21) k4 28 f4, zVl (a0 31) k5 14 f5, zVl (a0 22) k6 28 f6, zVl (a0 23) k7 28 f7, zVl (a0 32) k8 14 f8, zVi (a0 39) k9 14 f9, zVi (a0 14) k10 8 f10, zVl (a0 40) k11 14 f11, zVi (a0 15) k12 8 f12, zVi (a0 26) k13 28 f13] H := hP
  have hD := zDW hD hP rfl
  refine lv_aload_n hx hb dX12_passes_6 rfl (lv_at hl 0 rfl) ?_
  refine lv_iconst (v := 0) hx hb dX12_passes_7 zci_0 ?_
  refine va_put (D := (dC, dI)) (ci := 12) (v := .int 0) (ty := .int) (C := RX12) (T := TX12) (N := 67) hx hb hts zn_X12_passes_X12 tyX12 tyX12_ok nmX12 hown hK hP hD hS 0 rfl rfl 42 (of_decide_eq_true rfl) (hts (.fieldLink RX12 141 "ShortEnoughModel" "failsWhy" "I") zw_X12_passes_1159) (fun _ h9 => h9) rfl (tyX12_ok 42 (of_decide_eq_true rfl)) rfl rfl (Nat.le_of_ble_eq_true rfl) dX12_passes_8 (fun H locs hP hD hS => ?_)
  have hP : va_P (dC, dI) vwCl [(h0, .inr (12, zO a0 (zI (zI b0 41 (-2)) 42 0) c0)), zVi (a0 17) k1 2 f1, zVi (a0 19) k2 28 f2, zVi (a0 20) k3 28 f3, zVi (a0 21) k4 28 f4, zVl (a0 31) k5 14 f5, zVl (a0 22) k6 28 f6, zVl (a0 23) k7 28 f7, zVl (a0 32) k8 14 f8, zVi (a0 39) k9 14 f9, zVi (a0 14) k10 8 f10, zVl (a0 40) k11 14 f11, zVi (a0 15) k12 8 f12, zVi (a0 26) k13 28 f13] H := hP
  have hD := zDW hD hP rfl
  refine lv_iconst (v := 0) hx hb dX12_passes_11 zci_0 ?_
  refine lv_istore_n (lv' := [(1, .int 0), (0, .ref h0)]) hx hb dX12_passes_12 rfl hl (of_decide_eq_true rfl) rfl (fun ls hl => ?_)
  obtain ⟨bd_1, ebd_1, hfn⟩ := zl_g hfn
  have lp_1 : ∀ (n : Nat) (s_1 : Int32 × Int32 × Int32 × (Nat → Int64) × (Nat → Int64) × (Nat → Int64)) (H : Heap) (locs : List Loc) (ls : Array Slot), zl bd_1 n s_1 = some o → va_P (dC, dI) vwCl [(h0, .inr (12, zO a0 (zI (zI b0 41 s_1.2.1) 42 s_1.2.2.1) c0)), zVi (a0 17) k1 2 f1, zVi (a0 19) k2 28 f2, zVi (a0 20) k3 28 f3, zVi (a0 21) k4 28 f4, zVl (a0 31) k5 14 s_1.2.2.2.1, zVl (a0 22) k6 28 f6, zVl (a0 23) k7 28 f7, zVl (a0 32) k8 14 s_1.2.2.2.2.1, zVi (a0 39) k9 14 f9, zVi (a0 14) k10 8 f10, zVl (a0 40) k11 14 s_1.2.2.2.2.2, zVi (a0 15) k12 8 f12, zVi (a0 26) k13 28 f13] H → va_D A [(h0, .inr (12, zO a0 (zI (zI b0 41 s_1.2.1) 42 s_1.2.2.1) c0)), zVi (a0 17) k1 2 f1, zVi (a0 19) k2 28 f2, zVi (a0 20) k3 28 f3, zVi (a0 21) k4 28 f4, zVl (a0 31) k5 14 s_1.2.2.2.1, zVl (a0 22) k6 28 f6, zVl (a0 23) k7 28 f7, zVl (a0 32) k8 14 s_1.2.2.2.2.1, zVi (a0 39) k9 14 f9, zVi (a0 14) k10 8 f10, zVl (a0 40) k11 14 s_1.2.2.2.2.2, zVi (a0 15) k12 8 f12, zVi (a0 26) k13 28 f13] → va_S A s.heap H locs → lv_has ls 2 [(1, .int s_1.1), (0, .ref h0)] → W p l e (headSpec wsX12_passes ({ frames := 4, cells := 0, slots := 0, locals := 113 })).room s m ([.ref h0] : List Value).toArray below meth c H locs 0 0 Q (F0 m 13 ls []) := by
    intro n
    induction n with
    | zero => exact fun _ _ _ _ hfn => (zl_0 hfn).elim
    | succ n ih_1 =>
      intro s_1 H locs ls hfn hP hD hS hl
      have hfn := zl_s ebd_1 hfn
      refine lv_iload_n hx hb dX12_passes_13 rfl (lv_at hl 0 rfl) ?_
      refine lv_aload_n hx hb dX12_passes_14 rfl (lv_at hl 1 rfl) ?_
      refine va_get (D := (dC, dI)) (ci := 12) (v := .ref (a0 17)) (C := RX12) (T := TX12) (N := 67) hx hb hts zn_X12_passes_X12 hown hK hP 0 rfl rfl 17 (of_decide_eq_true rfl) (hts (.fieldLink RX12 62 "ShortEnoughModel" "numbers" "[I") zw_X12_passes_1160) (fun _ h9 => h9) rfl dX12_passes_15 ?_
      refine lv_iconst (v := 0) hx hb dX12_passes_18 zci_0 ?_
      refine va_iald hx hb hK hP 1 0 rfl rfl (zv_in (by decide +kernel)) dX12_passes_19 ?_
      refine lv_icmp_ge (tgt := 126) hx hb dX12_passes_20 (of_decide_eq_true rfl) (fun c_2 => ?_) (fun c_2 => ?_)
      · have hfn := (if_pos c_2).symm.trans hfn
        refine lv_aload_n hx hb dX12_passes_126 rfl (lv_at hl 1 rfl) ?_
        refine va_get (D := (dC, dI)) (ci := 12) (v := .int s_1.2.2.1) (C := RX12) (T := TX12) (N := 67) hx hb hts zn_X12_passes_X12 hown hK hP 0 rfl rfl 42 (of_decide_eq_true rfl) (hts (.fieldLink RX12 141 "ShortEnoughModel" "failsWhy" "I") zw_X12_passes_1159) (fun _ h9 => h9) rfl dX12_passes_127 ?_
        refine lv_if_ne (tgt := 137) hx hb dX12_passes_130 (of_decide_eq_true rfl) (fun c_3 => ?_) (fun c_3 => ?_)
        · have hfn := (if_neg c_3).symm.trans hfn
          refine lv_iconst (v := 0) hx hb dX12_passes_137 zci_0 ?_
          have ho := Option.some.inj hfn
          subst ho
          exact zrz hx hb hr rfl hK hP hD hS hQ ⟨rfl, zB0⟩ hlocks dX12_passes_138
        have hfn := (if_pos c_3).symm.trans hfn
        refine lv_iconst (v := 1) hx hb dX12_passes_133 zci_1 ?_
        refine lv_goto (tgt := 138) hx hb dX12_passes_134 (of_decide_eq_true rfl) ?_
        have ho := Option.some.inj hfn
        subst ho
        exact zrz hx hb hr rfl hK hP hD hS hQ ⟨rfl, zB1⟩ hlocks dX12_passes_138
      have hfn := (if_neg c_2).symm.trans hfn
      refine lv_aload_n hx hb dX12_passes_23 rfl (lv_at hl 1 rfl) ?_
      refine va_get (D := (dC, dI)) (ci := 12) (v := .int s_1.2.2.1) (C := RX12) (T := TX12) (N := 67) hx hb hts zn_X12_passes_X12 hown hK hP 0 rfl rfl 42 (of_decide_eq_true rfl) (hts (.fieldLink RX12 141 "ShortEnoughModel" "failsWhy" "I") zw_X12_passes_1159) (fun _ h9 => h9) rfl dX12_passes_24 ?_
      refine lv_if_ne (tgt := 126) hx hb dX12_passes_27 (of_decide_eq_true rfl) (fun c_4 => ?_) (fun c_4 => ?_)
      · have hfn := (if_neg c_4).symm.trans hfn
        refine lv_aload_n hx hb dX12_passes_126 rfl (lv_at hl 1 rfl) ?_
        refine va_get (D := (dC, dI)) (ci := 12) (v := .int s_1.2.2.1) (C := RX12) (T := TX12) (N := 67) hx hb hts zn_X12_passes_X12 hown hK hP 0 rfl rfl 42 (of_decide_eq_true rfl) (hts (.fieldLink RX12 141 "ShortEnoughModel" "failsWhy" "I") zw_X12_passes_1159) (fun _ h9 => h9) rfl dX12_passes_127 ?_
        refine lv_if_ne (tgt := 137) hx hb dX12_passes_130 (of_decide_eq_true rfl) (fun c_5 => ?_) (fun c_5 => ?_)
        · have hfn := (if_neg c_5).symm.trans hfn
          refine lv_iconst (v := 0) hx hb dX12_passes_137 zci_0 ?_
          have ho := Option.some.inj hfn
          subst ho
          exact zrz hx hb hr rfl hK hP hD hS hQ ⟨rfl, zB0⟩ hlocks dX12_passes_138
        have hfn := (if_pos c_5).symm.trans hfn
        refine lv_iconst (v := 1) hx hb dX12_passes_133 zci_1 ?_
        refine lv_goto (tgt := 138) hx hb dX12_passes_134 (of_decide_eq_true rfl) ?_
        have ho := Option.some.inj hfn
        subst ho
        exact zrz hx hb hr rfl hK hP hD hS hQ ⟨rfl, zB1⟩ hlocks dX12_passes_138
      have hfn := (if_pos c_4).symm.trans hfn
      refine lv_aload_n hx hb dX12_passes_30 rfl (lv_at hl 1 rfl) ?_
      refine lv_iload_n hx hb dX12_passes_31 rfl (lv_at hl 0 rfl) ?_
      obtain ⟨o_6, hqo_6, hfn⟩ := zb_s hfn
      refine zcVv (ci := 12) (rest := []) (pc' := 35) (ws' := [(h0, .inr (12, zO a0 (zI (zI b0 41 s_1.2.1) 42 s_1.2.2.1) c0)), zVi (a0 17) k1 2 f1, zVi (a0 19) k2 28 f2, zVi (a0 20) k3 28 f3, zVi (a0 21) k4 28 f4, zVl (a0 31) k5 14 o_6.1, zVl (a0 22) k6 28 f6, zVl (a0 23) k7 28 f7, zVl (a0 32) k8 14 o_6.2, zVi (a0 39) k9 14 f9, zVi (a0 14) k10 8 f10, zVl (a0 40) k11 14 s_1.2.2.2.2.2, zVi (a0 15) k12 8 f12, zVi (a0 26) k13 28 f13]) hP hK hD hS hA ⟨hx, hb, hml, hown, hts⟩ (zf_X12_laysRange l dC dI h0 s_1.1 a0 (zI (zI b0 41 s_1.2.1) 42 s_1.2.2.1) c0 k2 f2 k3 f3 k4 f4 k5 s_1.2.2.2.1 k6 f6 k7 f7 k8 s_1.2.2.2.2.1 o_6 hqo_6 H.size) (cwV 1 hts gX12_passes_X12_laysRange rfl rfl rfl zhd_X12_laysRange ⟨Nat.le_of_ble_eq_true rfl, Nat.le_of_ble_eq_true rfl⟩) [0, 2, 3, 4, 5, 6, 7, 8] rfl (of_decide_eq_true rfl) [1, 2, 3, 4, 5, 6, 7] rfl rfl rfl rfl hl.1 rfl (Nat.le_of_ble_eq_true rfl) dX12_passes_32 ⟨Nat.le_of_ble_eq_true rfl, Nat.le_of_ble_eq_true rfl⟩ [some 0, none, some 1, some 2, some 3, some 4, some 5, some 6, some 7] (of_decide_eq_true rfl) (of_decide_eq_true rfl) rfl rfl rfl (fun H locs hP hD hS => ?_)
      refine lv_aload_n hx hb dX12_passes_35 rfl (lv_at hl 1 rfl) ?_
      refine lv_iload_n hx hb dX12_passes_36 rfl (lv_at hl 0 rfl) ?_
      obtain ⟨o_10, hqo_10, hfn⟩ := zb_s hfn
      refine zcVv (ci := 12) (rest := []) (pc' := 40) (ws' := [(h0, .inr (12, zO a0 (zI (zI b0 41 s_1.2.1) 42 s_1.2.2.1) c0)), zVi (a0 17) k1 2 f1, zVi (a0 19) k2 28 f2, zVi (a0 20) k3 28 f3, zVi (a0 21) k4 28 f4, zVl (a0 31) k5 14 o_6.1, zVl (a0 22) k6 28 f6, zVl (a0 23) k7 28 f7, zVl (a0 32) k8 14 o_6.2, zVi (a0 39) k9 14 f9, zVi (a0 14) k10 8 f10, zVl (a0 40) k11 14 o_10, zVi (a0 15) k12 8 f12, zVi (a0 26) k13 28 f13]) hP hK hD hS hA ⟨hx, hb, hml, hown, hts⟩ (zf_X12_laysError l dC dI h0 s_1.1 a0 (zI (zI b0 41 s_1.2.1) 42 s_1.2.2.1) c0 k9 f9 k10 f10 k2 f2 k3 f3 k4 f4 k11 s_1.2.2.2.2.2 k6 f6 k7 f7 k5 o_6.1 k8 o_6.2 o_10 hqo_10 H.size) (cwV 1 hts gX12_passes_X12_laysError rfl rfl rfl zhd_X12_laysError ⟨Nat.le_of_ble_eq_true rfl, Nat.le_of_ble_eq_true rfl⟩) [0, 9, 10, 2, 3, 4, 11, 6, 7, 5, 8] rfl (of_decide_eq_true rfl) [8, 9, 1, 2, 3, 10, 5, 6, 4, 7] rfl rfl rfl rfl hl.1 rfl (Nat.le_of_ble_eq_true rfl) dX12_passes_37 ⟨Nat.le_of_ble_eq_true rfl, Nat.le_of_ble_eq_true rfl⟩ [some 0, none, some 3, some 4, some 5, some 9, some 7, some 8, some 10, some 1, some 2, some 6] (of_decide_eq_true rfl) (of_decide_eq_true rfl) rfl rfl rfl (fun H locs hP hD hS => ?_)
      refine lv_aload_n hx hb dX12_passes_40 rfl (lv_at hl 1 rfl) ?_
      refine lv_iload_n hx hb dX12_passes_41 rfl (lv_at hl 0 rfl) ?_
      obtain ⟨o_14, hqo_14, hfn⟩ := zb_s hfn
      refine zcVl (ci := 12) (rest := []) (pc' := 45) (ws' := [(h0, .inr (12, zO a0 (zI (zI b0 41 s_1.2.1) 42 s_1.2.2.1) c0)), zVi (a0 17) k1 2 f1, zVi (a0 19) k2 28 f2, zVi (a0 20) k3 28 f3, zVi (a0 21) k4 28 f4, zVl (a0 31) k5 14 o_6.1, zVl (a0 22) k6 28 f6, zVl (a0 23) k7 28 f7, zVl (a0 32) k8 14 o_6.2, zVi (a0 39) k9 14 f9, zVi (a0 14) k10 8 f10, zVl (a0 40) k11 14 o_10, zVi (a0 15) k12 8 f12, zVi (a0 26) k13 28 f13]) hP hK hD hS hA ⟨hx, hb, hml, hown, hts⟩ (zf_X12_mostOf l dC dI h0 s_1.1 a0 (zI (zI b0 41 s_1.2.1) 42 s_1.2.2.1) c0 k5 o_6.1 k8 o_6.2 o_14 hqo_14 H.size) (cwV 1 hts gX12_passes_X12_mostOf rfl rfl rfl zhd_X12_mostOf ⟨Nat.le_of_ble_eq_true rfl, Nat.le_of_ble_eq_true rfl⟩) [0, 5, 8] rfl (of_decide_eq_true rfl) [4, 7] rfl rfl rfl rfl hl.1 rfl (Nat.le_of_ble_eq_true rfl) dX12_passes_42 ⟨Nat.le_of_ble_eq_true rfl, Nat.le_of_ble_eq_true rfl⟩ [some 0, none, none, none, none, some 1, none, none, some 2] (of_decide_eq_true rfl) (of_decide_eq_true rfl) rfl rfl rfl (fun H locs hP hD hS => ?_)
      refine lv_aload_n hx hb dX12_passes_45 rfl (lv_at hl 1 rfl) ?_
      refine va_get (D := (dC, dI)) (ci := 12) (v := .ref (a0 40)) (C := RX12) (T := TX12) (N := 67) hx hb hts zn_X12_passes_X12 hown hK hP 0 rfl rfl 40 (of_decide_eq_true rfl) (hts (.fieldLink RX12 135 "ShortEnoughModel" "error" "[J") zw_X12_passes_1161) (fun _ h9 => h9) rfl dX12_passes_46 ?_
      refine lv_iload_n hx hb dX12_passes_49 rfl (lv_at hl 0 rfl) ?_
      obtain ⟨h_18, hfn⟩ := zg_s hfn
      refine va_lald hx hb hK hP 11 10 rfl rfl h_18 dX12_passes_50 ?_
      refine lv_ladd hx hb dX12_passes_51 ?_
      refine lv_aload_n hx hb dX12_passes_52 rfl (lv_at hl 1 rfl) ?_
      refine va_get (D := (dC, dI)) (ci := 12) (v := .ref (a0 15)) (C := RX12) (T := TX12) (N := 67) hx hb hts zn_X12_passes_X12 hown hK hP 0 rfl rfl 15 (of_decide_eq_true rfl) (hts (.fieldLink RX12 56 "ShortEnoughModel" "most" "[I") zw_X12_passes_1162) (fun _ h9 => h9) rfl dX12_passes_53 ?_
      refine lv_aload_n hx hb dX12_passes_56 rfl (lv_at hl 1 rfl) ?_
      refine va_get (D := (dC, dI)) (ci := 12) (v := .ref (a0 39)) (C := RX12) (T := TX12) (N := 67) hx hb hts zn_X12_passes_X12 hown hK hP 0 rfl rfl 39 (of_decide_eq_true rfl) (hts (.fieldLink RX12 132 "ShortEnoughModel" "tried" "[I") zw_X12_passes_1163) (fun _ h9 => h9) rfl dX12_passes_57 ?_
      refine lv_iload_n hx hb dX12_passes_60 rfl (lv_at hl 0 rfl) ?_
      refine va_iald hx hb hK hP 9 8 rfl rfl h_18 dX12_passes_61 ?_
      obtain ⟨h_19, hfn⟩ := zg_s hfn
      refine va_iald hx hb hK hP 12 11 rfl rfl h_19 dX12_passes_62 ?_
      refine lv_i2l (v := (f12 (f9 s_1.1.toNatClampNeg).toNatClampNeg).toInt64) hx hb dX12_passes_63 rfl ?_
      refine W.lcmp hx hb dX12_passes_64 ?_
      refine lv_if_le (tgt := 76) hx hb dX12_passes_65 (of_decide_eq_true rfl) (fun c_20 => ?_) (fun c_20 => ?_)
      · have hfn := (if_pos c_20).symm.trans hfn
        refine lv_aload_n hx hb dX12_passes_76 rfl (lv_at hl 1 rfl) ?_
        refine va_get (D := (dC, dI)) (ci := 12) (v := .ref (a0 26)) (C := RX12) (T := TX12) (N := 67) hx hb hts zn_X12_passes_X12 hown hK hP 0 rfl rfl 26 (of_decide_eq_true rfl) (hts (.fieldLink RX12 90 "ShortEnoughModel" "within" "[I") zw_X12_passes_1164) (fun _ h9 => h9) rfl dX12_passes_77 ?_
        refine lv_iload_n hx hb dX12_passes_80 rfl (lv_at hl 0 rfl) ?_
        obtain ⟨h_21, hfn⟩ := zg_s hfn
        refine va_iald hx hb hK hP 13 12 rfl rfl h_21 dX12_passes_81 ?_
        refine lv_iconst (v := (-1)) hx hb dX12_passes_82 zci_m1 ?_
        refine lv_icmp_eq (tgt := 108) hx hb dX12_passes_83 (of_decide_eq_true rfl) (fun c_22 => ?_) (fun c_22 => ?_)
        · have hfn := (if_pos c_22).symm.trans hfn
          refine lv_aload_n hx hb dX12_passes_108 rfl (lv_at hl 1 rfl) ?_
          refine va_get (D := (dC, dI)) (ci := 12) (v := .int s_1.2.2.1) (C := RX12) (T := TX12) (N := 67) hx hb hts zn_X12_passes_X12 hown hK hP 0 rfl rfl 42 (of_decide_eq_true rfl) (hts (.fieldLink RX12 141 "ShortEnoughModel" "failsWhy" "I") zw_X12_passes_1159) (fun _ h9 => h9) rfl dX12_passes_109 ?_
          refine lv_if_le (tgt := 120) hx hb dX12_passes_112 (of_decide_eq_true rfl) (fun c_23 => ?_) (fun c_23 => ?_)
          · have hfn := (if_pos c_23).symm.trans hfn
            refine lv_iinc (v := (s_1.1 + 1)) (lv' := [(1, .int (s_1.1 + 1)), (0, .ref h0)]) hx hb dX12_passes_120 hl (k := 0) rfl rfl (of_decide_eq_true rfl) rfl (fun ls hl => ?_)
            refine lv_goto (tgt := 13) hx hb dX12_passes_123 (of_decide_eq_true rfl) ?_
            exact ih_1 ((s_1.1 + 1), s_1.2.1, s_1.2.2.1, o_6.1, o_6.2, o_10) H locs ls hfn hP hD hS (lv_sub hl [0, 1] rfl)
          have hfn := (if_neg c_23).symm.trans hfn
          refine lv_aload_n hx hb dX12_passes_115 rfl (lv_at hl 1 rfl) ?_
          refine lv_iload_n hx hb dX12_passes_116 rfl (lv_at hl 0 rfl) ?_
          refine va_put (D := (dC, dI)) (ci := 12) (v := .int s_1.1) (ty := .int) (C := RX12) (T := TX12) (N := 67) hx hb hts zn_X12_passes_X12 tyX12 tyX12_ok nmX12 hown hK hP hD hS 0 rfl rfl 41 (of_decide_eq_true rfl) (hts (.fieldLink RX12 138 "ShortEnoughModel" "failsAt" "I") zw_X12_passes_1158) (fun _ h9 => h9) rfl (tyX12_ok 41 (of_decide_eq_true rfl)) rfl rfl (Nat.le_of_ble_eq_true rfl) dX12_passes_117 (fun H locs hP hD hS => ?_)
          have hP : va_P (dC, dI) vwCl [(h0, .inr (12, zO a0 (zI (zI b0 41 s_1.1) 42 s_1.2.2.1) c0)), zVi (a0 17) k1 2 f1, zVi (a0 19) k2 28 f2, zVi (a0 20) k3 28 f3, zVi (a0 21) k4 28 f4, zVl (a0 31) k5 14 o_6.1, zVl (a0 22) k6 28 f6, zVl (a0 23) k7 28 f7, zVl (a0 32) k8 14 o_6.2, zVi (a0 39) k9 14 f9, zVi (a0 14) k10 8 f10, zVl (a0 40) k11 14 o_10, zVi (a0 15) k12 8 f12, zVi (a0 26) k13 28 f13] H := hP
          have hD := zDW hD hP rfl
          refine lv_iinc (v := (s_1.1 + 1)) (lv' := [(1, .int (s_1.1 + 1)), (0, .ref h0)]) hx hb dX12_passes_120 hl (k := 0) rfl rfl (of_decide_eq_true rfl) rfl (fun ls hl => ?_)
          refine lv_goto (tgt := 13) hx hb dX12_passes_123 (of_decide_eq_true rfl) ?_
          exact ih_1 ((s_1.1 + 1), s_1.1, s_1.2.2.1, o_6.1, o_6.2, o_10) H locs ls hfn hP hD hS (lv_sub hl [0, 1] rfl)
        have hfn := (if_neg c_22).symm.trans hfn
        refine lv_aload_n hx hb dX12_passes_86 rfl (lv_at hl 1 rfl) ?_
        refine va_get (D := (dC, dI)) (ci := 12) (v := .ref (a0 40)) (C := RX12) (T := TX12) (N := 67) hx hb hts zn_X12_passes_X12 hown hK hP 0 rfl rfl 40 (of_decide_eq_true rfl) (hts (.fieldLink RX12 135 "ShortEnoughModel" "error" "[J") zw_X12_passes_1161) (fun _ h9 => h9) rfl dX12_passes_87 ?_
        refine lv_iload_n hx hb dX12_passes_90 rfl (lv_at hl 0 rfl) ?_
        refine va_lald hx hb hK hP 11 10 rfl rfl h_18 dX12_passes_91 ?_
        refine lv_aload_n hx hb dX12_passes_92 rfl (lv_at hl 1 rfl) ?_
        refine va_get (D := (dC, dI)) (ci := 12) (v := .ref (a0 26)) (C := RX12) (T := TX12) (N := 67) hx hb hts zn_X12_passes_X12 hown hK hP 0 rfl rfl 26 (of_decide_eq_true rfl) (hts (.fieldLink RX12 90 "ShortEnoughModel" "within" "[I") zw_X12_passes_1164) (fun _ h9 => h9) rfl dX12_passes_93 ?_
        refine lv_iload_n hx hb dX12_passes_96 rfl (lv_at hl 0 rfl) ?_
        refine va_iald hx hb hK hP 13 12 rfl rfl h_21 dX12_passes_97 ?_
        refine lv_i2l (v := (f13 s_1.1.toNatClampNeg).toInt64) hx hb dX12_passes_98 rfl ?_
        refine W.lcmp hx hb dX12_passes_99 ?_
        refine lv_if_le (tgt := 108) hx hb dX12_passes_100 (of_decide_eq_true rfl) (fun c_24 => ?_) (fun c_24 => ?_)
        · have hfn := (if_pos c_24).symm.trans hfn
          refine lv_aload_n hx hb dX12_passes_108 rfl (lv_at hl 1 rfl) ?_
          refine va_get (D := (dC, dI)) (ci := 12) (v := .int s_1.2.2.1) (C := RX12) (T := TX12) (N := 67) hx hb hts zn_X12_passes_X12 hown hK hP 0 rfl rfl 42 (of_decide_eq_true rfl) (hts (.fieldLink RX12 141 "ShortEnoughModel" "failsWhy" "I") zw_X12_passes_1159) (fun _ h9 => h9) rfl dX12_passes_109 ?_
          refine lv_if_le (tgt := 120) hx hb dX12_passes_112 (of_decide_eq_true rfl) (fun c_25 => ?_) (fun c_25 => ?_)
          · have hfn := (if_pos c_25).symm.trans hfn
            refine lv_iinc (v := (s_1.1 + 1)) (lv' := [(1, .int (s_1.1 + 1)), (0, .ref h0)]) hx hb dX12_passes_120 hl (k := 0) rfl rfl (of_decide_eq_true rfl) rfl (fun ls hl => ?_)
            refine lv_goto (tgt := 13) hx hb dX12_passes_123 (of_decide_eq_true rfl) ?_
            exact ih_1 ((s_1.1 + 1), s_1.2.1, s_1.2.2.1, o_6.1, o_6.2, o_10) H locs ls hfn hP hD hS (lv_sub hl [0, 1] rfl)
          have hfn := (if_neg c_25).symm.trans hfn
          refine lv_aload_n hx hb dX12_passes_115 rfl (lv_at hl 1 rfl) ?_
          refine lv_iload_n hx hb dX12_passes_116 rfl (lv_at hl 0 rfl) ?_
          refine va_put (D := (dC, dI)) (ci := 12) (v := .int s_1.1) (ty := .int) (C := RX12) (T := TX12) (N := 67) hx hb hts zn_X12_passes_X12 tyX12 tyX12_ok nmX12 hown hK hP hD hS 0 rfl rfl 41 (of_decide_eq_true rfl) (hts (.fieldLink RX12 138 "ShortEnoughModel" "failsAt" "I") zw_X12_passes_1158) (fun _ h9 => h9) rfl (tyX12_ok 41 (of_decide_eq_true rfl)) rfl rfl (Nat.le_of_ble_eq_true rfl) dX12_passes_117 (fun H locs hP hD hS => ?_)
          have hP : va_P (dC, dI) vwCl [(h0, .inr (12, zO a0 (zI (zI b0 41 s_1.1) 42 s_1.2.2.1) c0)), zVi (a0 17) k1 2 f1, zVi (a0 19) k2 28 f2, zVi (a0 20) k3 28 f3, zVi (a0 21) k4 28 f4, zVl (a0 31) k5 14 o_6.1, zVl (a0 22) k6 28 f6, zVl (a0 23) k7 28 f7, zVl (a0 32) k8 14 o_6.2, zVi (a0 39) k9 14 f9, zVi (a0 14) k10 8 f10, zVl (a0 40) k11 14 o_10, zVi (a0 15) k12 8 f12, zVi (a0 26) k13 28 f13] H := hP
          have hD := zDW hD hP rfl
          refine lv_iinc (v := (s_1.1 + 1)) (lv' := [(1, .int (s_1.1 + 1)), (0, .ref h0)]) hx hb dX12_passes_120 hl (k := 0) rfl rfl (of_decide_eq_true rfl) rfl (fun ls hl => ?_)
          refine lv_goto (tgt := 13) hx hb dX12_passes_123 (of_decide_eq_true rfl) ?_
          exact ih_1 ((s_1.1 + 1), s_1.1, s_1.2.2.1, o_6.1, o_6.2, o_10) H locs ls hfn hP hD hS (lv_sub hl [0, 1] rfl)
        have hfn := (if_neg c_24).symm.trans hfn
        refine lv_aload_n hx hb dX12_passes_103 rfl (lv_at hl 1 rfl) ?_
        refine lv_iconst (v := 2) hx hb dX12_passes_104 zci_2 ?_
        refine va_put (D := (dC, dI)) (ci := 12) (v := .int 2) (ty := .int) (C := RX12) (T := TX12) (N := 67) hx hb hts zn_X12_passes_X12 tyX12 tyX12_ok nmX12 hown hK hP hD hS 0 rfl rfl 42 (of_decide_eq_true rfl) (hts (.fieldLink RX12 141 "ShortEnoughModel" "failsWhy" "I") zw_X12_passes_1159) (fun _ h9 => h9) rfl (tyX12_ok 42 (of_decide_eq_true rfl)) rfl rfl (Nat.le_of_ble_eq_true rfl) dX12_passes_105 (fun H locs hP hD hS => ?_)
        have hP : va_P (dC, dI) vwCl [(h0, .inr (12, zO a0 (zI (zI b0 41 s_1.2.1) 42 2) c0)), zVi (a0 17) k1 2 f1, zVi (a0 19) k2 28 f2, zVi (a0 20) k3 28 f3, zVi (a0 21) k4 28 f4, zVl (a0 31) k5 14 o_6.1, zVl (a0 22) k6 28 f6, zVl (a0 23) k7 28 f7, zVl (a0 32) k8 14 o_6.2, zVi (a0 39) k9 14 f9, zVi (a0 14) k10 8 f10, zVl (a0 40) k11 14 o_10, zVi (a0 15) k12 8 f12, zVi (a0 26) k13 28 f13] H := hP
        have hD := zDW hD hP rfl
        refine lv_aload_n hx hb dX12_passes_108 rfl (lv_at hl 1 rfl) ?_
        refine va_get (D := (dC, dI)) (ci := 12) (v := .int 2) (C := RX12) (T := TX12) (N := 67) hx hb hts zn_X12_passes_X12 hown hK hP 0 rfl rfl 42 (of_decide_eq_true rfl) (hts (.fieldLink RX12 141 "ShortEnoughModel" "failsWhy" "I") zw_X12_passes_1159) (fun _ h9 => h9) rfl dX12_passes_109 ?_
        refine lv_if_le (tgt := 120) hx hb dX12_passes_112 (of_decide_eq_true rfl) (fun c_26 => absurd c_26 (by decide +kernel)) (fun _ => ?_)
        refine lv_aload_n hx hb dX12_passes_115 rfl (lv_at hl 1 rfl) ?_
        refine lv_iload_n hx hb dX12_passes_116 rfl (lv_at hl 0 rfl) ?_
        refine va_put (D := (dC, dI)) (ci := 12) (v := .int s_1.1) (ty := .int) (C := RX12) (T := TX12) (N := 67) hx hb hts zn_X12_passes_X12 tyX12 tyX12_ok nmX12 hown hK hP hD hS 0 rfl rfl 41 (of_decide_eq_true rfl) (hts (.fieldLink RX12 138 "ShortEnoughModel" "failsAt" "I") zw_X12_passes_1158) (fun _ h9 => h9) rfl (tyX12_ok 41 (of_decide_eq_true rfl)) rfl rfl (Nat.le_of_ble_eq_true rfl) dX12_passes_117 (fun H locs hP hD hS => ?_)
        have hP : va_P (dC, dI) vwCl [(h0, .inr (12, zO a0 (zI (zI b0 41 s_1.1) 42 2) c0)), zVi (a0 17) k1 2 f1, zVi (a0 19) k2 28 f2, zVi (a0 20) k3 28 f3, zVi (a0 21) k4 28 f4, zVl (a0 31) k5 14 o_6.1, zVl (a0 22) k6 28 f6, zVl (a0 23) k7 28 f7, zVl (a0 32) k8 14 o_6.2, zVi (a0 39) k9 14 f9, zVi (a0 14) k10 8 f10, zVl (a0 40) k11 14 o_10, zVi (a0 15) k12 8 f12, zVi (a0 26) k13 28 f13] H := hP
        have hD := zDW hD hP rfl
        refine lv_iinc (v := (s_1.1 + 1)) (lv' := [(1, .int (s_1.1 + 1)), (0, .ref h0)]) hx hb dX12_passes_120 hl (k := 0) rfl rfl (of_decide_eq_true rfl) rfl (fun ls hl => ?_)
        refine lv_goto (tgt := 13) hx hb dX12_passes_123 (of_decide_eq_true rfl) ?_
        exact ih_1 ((s_1.1 + 1), s_1.1, 2, o_6.1, o_6.2, o_10) H locs ls hfn hP hD hS (lv_sub hl [0, 1] rfl)
      have hfn := (if_neg c_20).symm.trans hfn
      refine lv_aload_n hx hb dX12_passes_68 rfl (lv_at hl 1 rfl) ?_
      refine lv_iconst (v := 1) hx hb dX12_passes_69 zci_1 ?_
      refine va_put (D := (dC, dI)) (ci := 12) (v := .int 1) (ty := .int) (C := RX12) (T := TX12) (N := 67) hx hb hts zn_X12_passes_X12 tyX12 tyX12_ok nmX12 hown hK hP hD hS 0 rfl rfl 42 (of_decide_eq_true rfl) (hts (.fieldLink RX12 141 "ShortEnoughModel" "failsWhy" "I") zw_X12_passes_1159) (fun _ h9 => h9) rfl (tyX12_ok 42 (of_decide_eq_true rfl)) rfl rfl (Nat.le_of_ble_eq_true rfl) dX12_passes_70 (fun H locs hP hD hS => ?_)
      have hP : va_P (dC, dI) vwCl [(h0, .inr (12, zO a0 (zI (zI b0 41 s_1.2.1) 42 1) c0)), zVi (a0 17) k1 2 f1, zVi (a0 19) k2 28 f2, zVi (a0 20) k3 28 f3, zVi (a0 21) k4 28 f4, zVl (a0 31) k5 14 o_6.1, zVl (a0 22) k6 28 f6, zVl (a0 23) k7 28 f7, zVl (a0 32) k8 14 o_6.2, zVi (a0 39) k9 14 f9, zVi (a0 14) k10 8 f10, zVl (a0 40) k11 14 o_10, zVi (a0 15) k12 8 f12, zVi (a0 26) k13 28 f13] H := hP
      have hD := zDW hD hP rfl
      refine lv_goto (tgt := 108) hx hb dX12_passes_73 (of_decide_eq_true rfl) ?_
      refine lv_aload_n hx hb dX12_passes_108 rfl (lv_at hl 1 rfl) ?_
      refine va_get (D := (dC, dI)) (ci := 12) (v := .int 1) (C := RX12) (T := TX12) (N := 67) hx hb hts zn_X12_passes_X12 hown hK hP 0 rfl rfl 42 (of_decide_eq_true rfl) (hts (.fieldLink RX12 141 "ShortEnoughModel" "failsWhy" "I") zw_X12_passes_1159) (fun _ h9 => h9) rfl dX12_passes_109 ?_
      refine lv_if_le (tgt := 120) hx hb dX12_passes_112 (of_decide_eq_true rfl) (fun c_27 => absurd c_27 (by decide +kernel)) (fun _ => ?_)
      refine lv_aload_n hx hb dX12_passes_115 rfl (lv_at hl 1 rfl) ?_
      refine lv_iload_n hx hb dX12_passes_116 rfl (lv_at hl 0 rfl) ?_
      refine va_put (D := (dC, dI)) (ci := 12) (v := .int s_1.1) (ty := .int) (C := RX12) (T := TX12) (N := 67) hx hb hts zn_X12_passes_X12 tyX12 tyX12_ok nmX12 hown hK hP hD hS 0 rfl rfl 41 (of_decide_eq_true rfl) (hts (.fieldLink RX12 138 "ShortEnoughModel" "failsAt" "I") zw_X12_passes_1158) (fun _ h9 => h9) rfl (tyX12_ok 41 (of_decide_eq_true rfl)) rfl rfl (Nat.le_of_ble_eq_true rfl) dX12_passes_117 (fun H locs hP hD hS => ?_)
      have hP : va_P (dC, dI) vwCl [(h0, .inr (12, zO a0 (zI (zI b0 41 s_1.1) 42 1) c0)), zVi (a0 17) k1 2 f1, zVi (a0 19) k2 28 f2, zVi (a0 20) k3 28 f3, zVi (a0 21) k4 28 f4, zVl (a0 31) k5 14 o_6.1, zVl (a0 22) k6 28 f6, zVl (a0 23) k7 28 f7, zVl (a0 32) k8 14 o_6.2, zVi (a0 39) k9 14 f9, zVi (a0 14) k10 8 f10, zVl (a0 40) k11 14 o_10, zVi (a0 15) k12 8 f12, zVi (a0 26) k13 28 f13] H := hP
      have hD := zDW hD hP rfl
      refine lv_iinc (v := (s_1.1 + 1)) (lv' := [(1, .int (s_1.1 + 1)), (0, .ref h0)]) hx hb dX12_passes_120 hl (k := 0) rfl rfl (of_decide_eq_true rfl) rfl (fun ls hl => ?_)
      refine lv_goto (tgt := 13) hx hb dX12_passes_123 (of_decide_eq_true rfl) ?_
      exact ih_1 ((s_1.1 + 1), s_1.1, 1, o_6.1, o_6.2, o_10) H locs ls hfn hP hD hS (lv_sub hl [0, 1] rfl)
  exact lp_1 _ (0, (-2), 0, f5, f8, f11) H locs ls hfn hP hD hS (lv_sub hl [0, 1] rfl)
theorem zn_X12_isCast_X12 : ∀ w ∈ wsX120, w ∈ wsX12_isCast := fun _ h => List.mem_cons_of_mem _ (List.mem_append_right _ h)
theorem zw_X12_isCast_1166 : Cond.fieldLink RX12 132 "ShortEnoughModel" "tried" "[I" ∈ wsX12_isCast := List.mem_of_getElem? (i := 1) (by decide +kernel)
set_option maxHeartbeats 4000000 in
set_option maxRecDepth 100000 in
theorem zf_X12_isCast (l : Launch) (dC : Nat → ClassId) (dI : Nat → Nat → Nat) (h0 : Nat) (p1 : Int32) (p2 : Int32) (a0 : Nat → Nat) (b0 : Nat → Int32) (c0 : Nat → Int64) (k1 : Nat) (f1 : Nat → Int32) (o : Int32) (hfn : fn_X12_isCast p1 p2 f1 = some o) (sz : Nat) : zMi l yX12_isCast wsX12_isCast ({ frames := 0, cells := 0, slots := 0, locals := 0 }) (dC, dI) vwCl [.ref h0, .int p1, .int p2] [(h0, .inr (12, zO a0 b0 c0)), zVi (a0 39) k1 14 f1] [(k1, .int)] (fun r _ => r = o ∧ narrow .boolean (.int o) = .int o) [(h0, .inr (12, zO a0 b0 c0)), zVi (a0 39) k1 14 f1] [(k1, .int)] sz := by
  refine zgoi (cc := cX12_isCast) (maxL := 3) (ret := (some .boolean)) (C0 := RX12) (lv0 := [(0, .ref h0), (1, .int p1), (2, .int p2)]) zpl_X12 rfl rfl rfl (Nat.le_of_ble_eq_true rfl) ?_
  intro p e s m below meth c A ls Q hx hb hr hts hown hlocks hml hP hK hD hA hS hl hQ
  unfold fn_X12_isCast at hfn
  refine lv_iload_n hx hb dX12_isCast_0 rfl (lv_at hl 2 rfl) ?_
  refine lv_iconst (v := (-1)) hx hb dX12_isCast_1 zci_m1 ?_
  refine lv_icmp_eq (tgt := 24) hx hb dX12_isCast_2 (of_decide_eq_true rfl) (fun c_1 => ?_) (fun c_1 => ?_)
  · have hfn := (if_pos c_1).symm.trans hfn
    refine lv_iconst (v := 0) hx hb dX12_isCast_24 zci_0 ?_
    have ho := Option.some.inj hfn
    subst ho
    exact zrz hx hb hr rfl hK hP hD hS hQ ⟨rfl, zB0⟩ hlocks dX12_isCast_25
  have hfn := (if_neg c_1).symm.trans hfn
  refine lv_aload_n hx hb dX12_isCast_5 rfl (lv_at hl 0 rfl) ?_
  refine va_get (D := (dC, dI)) (ci := 12) (v := .ref (a0 39)) (C := RX12) (T := TX12) (N := 67) hx hb hts zn_X12_isCast_X12 hown hK hP 0 rfl rfl 39 (of_decide_eq_true rfl) (hts (.fieldLink RX12 132 "ShortEnoughModel" "tried" "[I") zw_X12_isCast_1166) (fun _ h9 => h9) rfl dX12_isCast_6 ?_
  refine lv_iload_n hx hb dX12_isCast_9 rfl (lv_at hl 2 rfl) ?_
  obtain ⟨h_2, hfn⟩ := zg_s hfn
  refine va_iald hx hb hK hP 1 0 rfl rfl h_2 dX12_isCast_10 ?_
  refine lv_aload_n hx hb dX12_isCast_11 rfl (lv_at hl 0 rfl) ?_
  refine va_get (D := (dC, dI)) (ci := 12) (v := .ref (a0 39)) (C := RX12) (T := TX12) (N := 67) hx hb hts zn_X12_isCast_X12 hown hK hP 0 rfl rfl 39 (of_decide_eq_true rfl) (hts (.fieldLink RX12 132 "ShortEnoughModel" "tried" "[I") zw_X12_isCast_1166) (fun _ h9 => h9) rfl dX12_isCast_12 ?_
  refine lv_iload_n hx hb dX12_isCast_15 rfl (lv_at hl 1 rfl) ?_
  obtain ⟨h_3, hfn⟩ := zg_s hfn
  refine va_iald hx hb hK hP 1 0 rfl rfl h_3 dX12_isCast_16 ?_
  refine lv_icmp_eq (tgt := 24) hx hb dX12_isCast_17 (of_decide_eq_true rfl) (fun c_4 => ?_) (fun c_4 => ?_)
  · have hfn := (if_pos c_4).symm.trans hfn
    refine lv_iconst (v := 0) hx hb dX12_isCast_24 zci_0 ?_
    have ho := Option.some.inj hfn
    subst ho
    exact zrz hx hb hr rfl hK hP hD hS hQ ⟨rfl, zB0⟩ hlocks dX12_isCast_25
  have hfn := (if_neg c_4).symm.trans hfn
  refine lv_iconst (v := 1) hx hb dX12_isCast_20 zci_1 ?_
  refine lv_goto (tgt := 25) hx hb dX12_isCast_21 (of_decide_eq_true rfl) ?_
  have ho := Option.some.inj hfn
  subst ho
  exact zrz hx hb hr rfl hK hP hD hS hQ ⟨rfl, zB1⟩ hlocks dX12_isCast_25
theorem zn_X12_castsTried_X12 : ∀ w ∈ wsX120, w ∈ wsX12_castsTried := fun _ h => List.mem_cons_of_mem _ (List.mem_append_right _ h)
theorem zw_X12_castsTried_1168 : Cond.fieldLink RX12 62 "ShortEnoughModel" "numbers" "[I" ∈ wsX12_castsTried := List.mem_of_getElem? (i := 1) (by decide +kernel)
theorem zw_X12_castsTried_1169 : Cond.fieldLink RX12 71 "ShortEnoughModel" "first" "[I" ∈ wsX12_castsTried := List.mem_of_getElem? (i := 2) (by decide +kernel)
theorem zw_X12_castsTried_1170 : Cond.fieldLink RX12 74 "ShortEnoughModel" "second" "[I" ∈ wsX12_castsTried := List.mem_of_getElem? (i := 3) (by decide +kernel)
set_option maxHeartbeats 4000000 in
set_option maxRecDepth 100000 in
theorem zf_X12_castsTried (l : Launch) (dC : Nat → ClassId) (dI : Nat → Nat → Nat) (h0 : Nat) (a0 : Nat → Nat) (b0 : Nat → Int32) (c0 : Nat → Int64) (k1 : Nat) (f1 : Nat → Int32) (k2 : Nat) (f2 : Nat → Int32) (k3 : Nat) (f3 : Nat → Int32) (k4 : Nat) (f4 : Nat → Int32) (o : Int32) (hfn : fn_X12_castsTried f1 f2 f3 f4 = some o) (sz : Nat) : zMi l yX12_castsTried wsX12_castsTried ({ frames := 1, cells := 0, slots := 0, locals := 22 }) (dC, dI) vwCl [.ref h0] [(h0, .inr (12, zO a0 b0 c0)), zVi (a0 17) k1 2 f1, zVi (a0 20) k2 28 f2, zVi (a0 39) k3 14 f3, zVi (a0 21) k4 28 f4] [(k1, .int), (k2, .int), (k3, .int), (k4, .int)] (fun r _ => r = o) [(h0, .inr (12, zO a0 b0 c0)), zVi (a0 17) k1 2 f1, zVi (a0 20) k2 28 f2, zVi (a0 39) k3 14 f3, zVi (a0 21) k4 28 f4] [(k1, .int), (k2, .int), (k3, .int), (k4, .int)] sz := by
  refine zgoi (cc := cX12_castsTried) (maxL := 3) (ret := (some .int)) (C0 := RX12) (lv0 := [(0, .ref h0)]) zpl_X12 rfl rfl rfl (Nat.le_of_ble_eq_true rfl) ?_
  intro p e s m below meth c A ls Q hx hb hr hts hown hlocks hml hP hK hD hA hS hl hQ
  unfold fn_X12_castsTried at hfn
  refine lv_iconst (v := 0) hx hb dX12_castsTried_0 zci_0 ?_
  refine lv_istore_n (lv' := [(1, .int 0), (0, .ref h0)]) hx hb dX12_castsTried_1 rfl hl (of_decide_eq_true rfl) rfl (fun ls hl => ?_)
  refine lv_iconst (v := 0) hx hb dX12_castsTried_2 zci_0 ?_
  refine lv_istore_n (lv' := [(2, .int 0), (1, .int 0), (0, .ref h0)]) hx hb dX12_castsTried_3 rfl hl (of_decide_eq_true rfl) rfl (fun ls hl => ?_)
  obtain ⟨bd_1, ebd_1, hfn⟩ := zl_g hfn
  have lp_1 : ∀ (n : Nat) (s_1 : Int32 × Int32) (H : Heap) (locs : List Loc) (ls : Array Slot), zl bd_1 n s_1 = some o → va_P (dC, dI) vwCl [(h0, .inr (12, zO a0 b0 c0)), zVi (a0 17) k1 2 f1, zVi (a0 20) k2 28 f2, zVi (a0 39) k3 14 f3, zVi (a0 21) k4 28 f4] H → va_D A [(h0, .inr (12, zO a0 b0 c0)), zVi (a0 17) k1 2 f1, zVi (a0 20) k2 28 f2, zVi (a0 39) k3 14 f3, zVi (a0 21) k4 28 f4] → va_S A s.heap H locs → lv_has ls 3 [(2, .int s_1.2), (1, .int s_1.1), (0, .ref h0)] → W p l e (headSpec wsX12_castsTried ({ frames := 1, cells := 0, slots := 0, locals := 22 })).room s m ([.ref h0] : List Value).toArray below meth c H locs 0 0 Q (F0 m 4 ls []) := by
    intro n
    induction n with
    | zero => exact fun _ _ _ _ hfn => (zl_0 hfn).elim
    | succ n ih_1 =>
      intro s_1 H locs ls hfn hP hD hS hl
      have hfn := zl_s ebd_1 hfn
      refine lv_iload_n hx hb dX12_castsTried_4 rfl (lv_at hl 0 rfl) ?_
      refine lv_aload_n hx hb dX12_castsTried_5 rfl (lv_at hl 2 rfl) ?_
      refine va_get (D := (dC, dI)) (ci := 12) (v := .ref (a0 17)) (C := RX12) (T := TX12) (N := 67) hx hb hts zn_X12_castsTried_X12 hown hK hP 0 rfl rfl 17 (of_decide_eq_true rfl) (hts (.fieldLink RX12 62 "ShortEnoughModel" "numbers" "[I") zw_X12_castsTried_1168) (fun _ h9 => h9) rfl dX12_castsTried_6 ?_
      refine lv_iconst (v := 0) hx hb dX12_castsTried_9 zci_0 ?_
      refine va_iald hx hb hK hP 1 0 rfl rfl (zv_in (by decide +kernel)) dX12_castsTried_10 ?_
      refine lv_icmp_ge (tgt := 62) hx hb dX12_castsTried_11 (of_decide_eq_true rfl) (fun c_2 => ?_) (fun c_2 => ?_)
      · have hfn := (if_pos c_2).symm.trans hfn
        refine lv_iload_n hx hb dX12_castsTried_62 rfl (lv_at hl 1 rfl) ?_
        have ho := Option.some.inj hfn
        subst ho
        exact zri hx hb hr hK hP hD hS hQ rfl hlocks dX12_castsTried_63
      have hfn := (if_neg c_2).symm.trans hfn
      refine lv_iload_n hx hb dX12_castsTried_14 rfl (lv_at hl 1 rfl) ?_
      refine lv_aload_n hx hb dX12_castsTried_15 rfl (lv_at hl 2 rfl) ?_
      refine lv_iload_n hx hb dX12_castsTried_16 rfl (lv_at hl 0 rfl) ?_
      refine lv_aload_n hx hb dX12_castsTried_17 rfl (lv_at hl 2 rfl) ?_
      refine va_get (D := (dC, dI)) (ci := 12) (v := .ref (a0 20)) (C := RX12) (T := TX12) (N := 67) hx hb hts zn_X12_castsTried_X12 hown hK hP 0 rfl rfl 20 (of_decide_eq_true rfl) (hts (.fieldLink RX12 71 "ShortEnoughModel" "first" "[I") zw_X12_castsTried_1169) (fun _ h9 => h9) rfl dX12_castsTried_18 ?_
      refine lv_iload_n hx hb dX12_castsTried_21 rfl (lv_at hl 0 rfl) ?_
      obtain ⟨h_3, hfn⟩ := zg_s hfn
      refine va_iald hx hb hK hP 2 1 rfl rfl h_3 dX12_castsTried_22 ?_
      obtain ⟨o_4, hqo_4, hfn⟩ := zb_s hfn
      refine zcVb (ci := 12) (rest := [.int s_1.1]) (pc' := 26) (ws' := [(h0, .inr (12, zO a0 b0 c0)), zVi (a0 17) k1 2 f1, zVi (a0 20) k2 28 f2, zVi (a0 39) k3 14 f3, zVi (a0 21) k4 28 f4]) hP hK hD hS hA ⟨hx, hb, hml, hown, hts⟩ (zf_X12_isCast l dC dI h0 s_1.2 (f2 s_1.2.toNatClampNeg) a0 b0 c0 k3 f3 o_4 hqo_4 H.size) (cwV 2 hts gX12_castsTried_X12_isCast rfl rfl rfl zhd_X12_isCast ⟨Nat.le_of_ble_eq_true rfl, Nat.le_of_ble_eq_true rfl⟩) [0, 3] rfl (of_decide_eq_true rfl) [2] rfl rfl rfl rfl hl.1 rfl (Nat.le_of_ble_eq_true rfl) dX12_castsTried_23 ⟨Nat.le_of_ble_eq_true rfl, Nat.le_of_ble_eq_true rfl⟩ [some 0, none, none, some 1] (of_decide_eq_true rfl) (of_decide_eq_true rfl) rfl rfl rfl (fun H locs hw_7n hP hD hS => ?_)
      obtain ⟨j_8, ej_8, hfn⟩ := zj_g hfn
      have jp_8 : ∀ (s_8 : Int32) (H : Heap) (locs : List Loc) (ls : Array Slot), j_8 s_8 = some o → va_P (dC, dI) vwCl [(h0, .inr (12, zO a0 b0 c0)), zVi (a0 17) k1 2 f1, zVi (a0 20) k2 28 f2, zVi (a0 39) k3 14 f3, zVi (a0 21) k4 28 f4] H → va_D A [(h0, .inr (12, zO a0 b0 c0)), zVi (a0 17) k1 2 f1, zVi (a0 20) k2 28 f2, zVi (a0 39) k3 14 f3, zVi (a0 21) k4 28 f4] → va_S A s.heap H locs → lv_has ls 3 [(2, .int s_1.2), (0, .ref h0)] → W p l e (headSpec wsX12_castsTried ({ frames := 1, cells := 0, slots := 0, locals := 22 })).room s m ([.ref h0] : List Value).toArray below meth c H locs 0 0 Q (F0 m 34 ls [.int s_8, .int s_1.1]) := by
        intro s_8 H locs ls hfn hP hD hS hl
        have hfn := zj_s ej_8 hfn
        refine lv_aload_n hx hb dX12_castsTried_34 rfl (lv_at hl 1 rfl) ?_
        refine lv_iload_n hx hb dX12_castsTried_35 rfl (lv_at hl 0 rfl) ?_
        refine lv_aload_n hx hb dX12_castsTried_36 rfl (lv_at hl 1 rfl) ?_
        refine va_get (D := (dC, dI)) (ci := 12) (v := .ref (a0 21)) (C := RX12) (T := TX12) (N := 67) hx hb hts zn_X12_castsTried_X12 hown hK hP 0 rfl rfl 21 (of_decide_eq_true rfl) (hts (.fieldLink RX12 74 "ShortEnoughModel" "second" "[I") zw_X12_castsTried_1170) (fun _ h9 => h9) rfl dX12_castsTried_37 ?_
        refine lv_iload_n hx hb dX12_castsTried_40 rfl (lv_at hl 0 rfl) ?_
        obtain ⟨h_9, hfn⟩ := zg_s hfn
        refine va_iald hx hb hK hP 4 3 rfl rfl h_9 dX12_castsTried_41 ?_
        obtain ⟨o_10, hqo_10, hfn⟩ := zb_s hfn
        refine zcVb (ci := 12) (rest := [.int s_8, .int s_1.1]) (pc' := 45) (ws' := [(h0, .inr (12, zO a0 b0 c0)), zVi (a0 17) k1 2 f1, zVi (a0 20) k2 28 f2, zVi (a0 39) k3 14 f3, zVi (a0 21) k4 28 f4]) hP hK hD hS hA ⟨hx, hb, hml, hown, hts⟩ (zf_X12_isCast l dC dI h0 s_1.2 (f4 s_1.2.toNatClampNeg) a0 b0 c0 k3 f3 o_10 hqo_10 H.size) (cwV 2 hts gX12_castsTried_X12_isCast rfl rfl rfl zhd_X12_isCast ⟨Nat.le_of_ble_eq_true rfl, Nat.le_of_ble_eq_true rfl⟩) [0, 3] rfl (of_decide_eq_true rfl) [2] rfl rfl rfl rfl hl.1 rfl (Nat.le_of_ble_eq_true rfl) dX12_castsTried_42 ⟨Nat.le_of_ble_eq_true rfl, Nat.le_of_ble_eq_true rfl⟩ [some 0, none, none, some 1] (of_decide_eq_true rfl) (of_decide_eq_true rfl) rfl rfl rfl (fun H locs hw_13n hP hD hS => ?_)
        refine lv_if_eq (tgt := 52) hx hb dX12_castsTried_45 (of_decide_eq_true rfl) (fun c_14 => ?_) (fun c_14 => ?_)
        · have hfn := (if_pos c_14).symm.trans hfn
          refine lv_iconst (v := 0) hx hb dX12_castsTried_52 zci_0 ?_
          refine lv_iadd hx hb dX12_castsTried_53 ?_
          refine lv_iadd hx hb dX12_castsTried_54 ?_
          refine lv_istore_n (lv' := [(1, .int (s_1.1 + (s_8 + 0))), (2, .int s_1.2), (0, .ref h0)]) hx hb dX12_castsTried_55 rfl hl (of_decide_eq_true rfl) rfl (fun ls hl => ?_)
          refine lv_iinc (v := (s_1.2 + 1)) (lv' := [(2, .int (s_1.2 + 1)), (1, .int (s_1.1 + (s_8 + 0))), (0, .ref h0)]) hx hb dX12_castsTried_56 hl (k := 1) rfl rfl (of_decide_eq_true rfl) rfl (fun ls hl => ?_)
          refine lv_goto (tgt := 4) hx hb dX12_castsTried_59 (of_decide_eq_true rfl) ?_
          exact ih_1 ((s_1.1 + (s_8 + 0)), (s_1.2 + 1)) H locs ls hfn hP hD hS (lv_sub hl [0, 1, 2] rfl)
        have hfn := (if_neg c_14).symm.trans hfn
        refine lv_iconst (v := 1) hx hb dX12_castsTried_48 zci_1 ?_
        refine lv_goto (tgt := 53) hx hb dX12_castsTried_49 (of_decide_eq_true rfl) ?_
        refine lv_iadd hx hb dX12_castsTried_53 ?_
        refine lv_iadd hx hb dX12_castsTried_54 ?_
        refine lv_istore_n (lv' := [(1, .int (s_1.1 + (s_8 + 1))), (2, .int s_1.2), (0, .ref h0)]) hx hb dX12_castsTried_55 rfl hl (of_decide_eq_true rfl) rfl (fun ls hl => ?_)
        refine lv_iinc (v := (s_1.2 + 1)) (lv' := [(2, .int (s_1.2 + 1)), (1, .int (s_1.1 + (s_8 + 1))), (0, .ref h0)]) hx hb dX12_castsTried_56 hl (k := 1) rfl rfl (of_decide_eq_true rfl) rfl (fun ls hl => ?_)
        refine lv_goto (tgt := 4) hx hb dX12_castsTried_59 (of_decide_eq_true rfl) ?_
        exact ih_1 ((s_1.1 + (s_8 + 1)), (s_1.2 + 1)) H locs ls hfn hP hD hS (lv_sub hl [0, 1, 2] rfl)
      refine lv_if_eq (tgt := 33) hx hb dX12_castsTried_26 (of_decide_eq_true rfl) (fun c_15 => ?_) (fun c_15 => ?_)
      · have hfn := (if_pos c_15).symm.trans hfn
        refine lv_iconst (v := 0) hx hb dX12_castsTried_33 zci_0 ?_
        exact jp_8 0 H locs ls hfn hP hD hS (lv_sub hl [0, 2] rfl)
      have hfn := (if_neg c_15).symm.trans hfn
      refine lv_iconst (v := 1) hx hb dX12_castsTried_29 zci_1 ?_
      refine lv_goto (tgt := 34) hx hb dX12_castsTried_30 (of_decide_eq_true rfl) ?_
      exact jp_8 1 H locs ls hfn hP hD hS (lv_sub hl [0, 2] rfl)
  exact lp_1 _ (0, 0) s.heap [] ls hfn hP hD hS (lv_sub hl [0, 1, 2] rfl)
theorem zn_X12_costTried_X12 : ∀ w ∈ wsX120, w ∈ wsX12_costTried := fun _ h => List.mem_cons_of_mem _ (List.mem_append_right _ h)
theorem zw_X12_costTried_1172 : Cond.fieldLink RX12 84 "ShortEnoughModel" "castCost" "[I" ∈ wsX12_costTried := List.mem_of_getElem? (i := 1) (by decide +kernel)
theorem zw_X12_costTried_1173 : Cond.fieldLink RX12 62 "ShortEnoughModel" "numbers" "[I" ∈ wsX12_costTried := List.mem_of_getElem? (i := 2) (by decide +kernel)
theorem zw_X12_costTried_1174 : Cond.fieldLink RX12 59 "ShortEnoughModel" "formatCost" "[I" ∈ wsX12_costTried := List.mem_of_getElem? (i := 3) (by decide +kernel)
theorem zw_X12_costTried_1175 : Cond.fieldLink RX12 132 "ShortEnoughModel" "tried" "[I" ∈ wsX12_costTried := List.mem_of_getElem? (i := 4) (by decide +kernel)
set_option maxHeartbeats 4000000 in
set_option maxRecDepth 100000 in
theorem zf_X12_costTried (l : Launch) (dC : Nat → ClassId) (dI : Nat → Nat → Nat) (h0 : Nat) (a0 : Nat → Nat) (b0 : Nat → Int32) (c0 : Nat → Int64) (k1 : Nat) (f1 : Nat → Int32) (k2 : Nat) (f2 : Nat → Int32) (k3 : Nat) (f3 : Nat → Int32) (k4 : Nat) (f4 : Nat → Int32) (k5 : Nat) (f5 : Nat → Int32) (k6 : Nat) (f6 : Nat → Int32) (o : Int32) (hfn : fn_X12_costTried f1 f2 f3 f4 f5 f6 = some o) (sz : Nat) : zMi l yX12_costTried wsX12_costTried ({ frames := 2, cells := 0, slots := 0, locals := 44 }) (dC, dI) vwCl [.ref h0] [(h0, .inr (12, zO a0 b0 c0)), zVi (a0 24) k1 2 f1, zVi (a0 17) k2 2 f2, zVi (a0 20) k3 28 f3, zVi (a0 39) k4 14 f4, zVi (a0 21) k5 28 f5, zVi (a0 16) k6 8 f6] [(k1, .int), (k2, .int), (k3, .int), (k4, .int), (k5, .int), (k6, .int)] (fun r _ => r = o) [(h0, .inr (12, zO a0 b0 c0)), zVi (a0 24) k1 2 f1, zVi (a0 17) k2 2 f2, zVi (a0 20) k3 28 f3, zVi (a0 39) k4 14 f4, zVi (a0 21) k5 28 f5, zVi (a0 16) k6 8 f6] [(k1, .int), (k2, .int), (k3, .int), (k4, .int), (k5, .int), (k6, .int)] sz := by
  refine zgoi (cc := cX12_costTried) (maxL := 3) (ret := (some .int)) (C0 := RX12) (lv0 := [(0, .ref h0)]) zpl_X12 rfl rfl rfl (Nat.le_of_ble_eq_true rfl) ?_
  intro p e s m below meth c A ls Q hx hb hr hts hown hlocks hml hP hK hD hA hS hl hQ
  unfold fn_X12_costTried at hfn
  refine lv_aload_n hx hb dX12_costTried_0 rfl (lv_at hl 0 rfl) ?_
  refine va_get (D := (dC, dI)) (ci := 12) (v := .ref (a0 24)) (C := RX12) (T := TX12) (N := 67) hx hb hts zn_X12_costTried_X12 hown hK hP 0 rfl rfl 24 (of_decide_eq_true rfl) (hts (.fieldLink RX12 84 "ShortEnoughModel" "castCost" "[I") zw_X12_costTried_1172) (fun _ h9 => h9) rfl dX12_costTried_1 ?_
  refine lv_iconst (v := 0) hx hb dX12_costTried_4 zci_0 ?_
  refine va_iald hx hb hK hP 1 0 rfl rfl (zv_in (by decide +kernel)) dX12_costTried_5 ?_
  refine lv_aload_n hx hb dX12_costTried_6 rfl (lv_at hl 0 rfl) ?_
  obtain ⟨o_1, hqo_1, hfn⟩ := zb_s hfn
  refine zcVi (ci := 12) (rest := [.int (f1 (0 : Int32).toNatClampNeg)]) (pc' := 10) (ws' := [(h0, .inr (12, zO a0 b0 c0)), zVi (a0 24) k1 2 f1, zVi (a0 17) k2 2 f2, zVi (a0 20) k3 28 f3, zVi (a0 39) k4 14 f4, zVi (a0 21) k5 28 f5, zVi (a0 16) k6 8 f6]) hP hK hD hS hA ⟨hx, hb, hml, hown, hts⟩ (zf_X12_castsTried l dC dI h0 a0 b0 c0 k2 f2 k3 f3 k4 f4 k5 f5 o_1 hqo_1 s.heap.size) (cwV 0 hts gX12_costTried_X12_castsTried rfl rfl rfl zhd_X12_castsTried ⟨Nat.le_of_ble_eq_true rfl, Nat.le_of_ble_eq_true rfl⟩) [0, 2, 3, 4, 5] rfl (of_decide_eq_true rfl) [1, 2, 3, 4] rfl rfl rfl rfl hl.1 rfl (Nat.le_of_ble_eq_true rfl) dX12_costTried_7 ⟨Nat.le_of_ble_eq_true rfl, Nat.le_of_ble_eq_true rfl⟩ [some 0, none, some 1, some 2, some 3, some 4] (of_decide_eq_true rfl) (of_decide_eq_true rfl) rfl rfl rfl (fun H locs hP hD hS => ?_)
  refine lv_imul hx hb dX12_costTried_10 ?_
  refine lv_istore_n (lv' := [(1, .int ((f1 (0 : Int32).toNatClampNeg) * o_1)), (0, .ref h0)]) hx hb dX12_costTried_11 rfl hl (of_decide_eq_true rfl) rfl (fun ls hl => ?_)
  refine lv_iconst (v := 0) hx hb dX12_costTried_12 zci_0 ?_
  refine lv_istore_n (lv' := [(2, .int 0), (1, .int ((f1 (0 : Int32).toNatClampNeg) * o_1)), (0, .ref h0)]) hx hb dX12_costTried_13 rfl hl (of_decide_eq_true rfl) rfl (fun ls hl => ?_)
  obtain ⟨bd_5, ebd_5, hfn⟩ := zl_g hfn
  have lp_5 : ∀ (n : Nat) (s_5 : Int32 × Int32) (H : Heap) (locs : List Loc) (ls : Array Slot), zl bd_5 n s_5 = some o → va_P (dC, dI) vwCl [(h0, .inr (12, zO a0 b0 c0)), zVi (a0 24) k1 2 f1, zVi (a0 17) k2 2 f2, zVi (a0 20) k3 28 f3, zVi (a0 39) k4 14 f4, zVi (a0 21) k5 28 f5, zVi (a0 16) k6 8 f6] H → va_D A [(h0, .inr (12, zO a0 b0 c0)), zVi (a0 24) k1 2 f1, zVi (a0 17) k2 2 f2, zVi (a0 20) k3 28 f3, zVi (a0 39) k4 14 f4, zVi (a0 21) k5 28 f5, zVi (a0 16) k6 8 f6] → va_S A s.heap H locs → lv_has ls 3 [(2, .int s_5.2), (1, .int s_5.1), (0, .ref h0)] → W p l e (headSpec wsX12_costTried ({ frames := 2, cells := 0, slots := 0, locals := 44 })).room s m ([.ref h0] : List Value).toArray below meth c H locs 0 0 Q (F0 m 14 ls []) := by
    intro n
    induction n with
    | zero => exact fun _ _ _ _ hfn => (zl_0 hfn).elim
    | succ n ih_5 =>
      intro s_5 H locs ls hfn hP hD hS hl
      have hfn := zl_s ebd_5 hfn
      refine lv_iload_n hx hb dX12_costTried_14 rfl (lv_at hl 0 rfl) ?_
      refine lv_aload_n hx hb dX12_costTried_15 rfl (lv_at hl 2 rfl) ?_
      refine va_get (D := (dC, dI)) (ci := 12) (v := .ref (a0 17)) (C := RX12) (T := TX12) (N := 67) hx hb hts zn_X12_costTried_X12 hown hK hP 0 rfl rfl 17 (of_decide_eq_true rfl) (hts (.fieldLink RX12 62 "ShortEnoughModel" "numbers" "[I") zw_X12_costTried_1173) (fun _ h9 => h9) rfl dX12_costTried_16 ?_
      refine lv_iconst (v := 0) hx hb dX12_costTried_19 zci_0 ?_
      refine va_iald hx hb hK hP 2 1 rfl rfl (zv_in (by decide +kernel)) dX12_costTried_20 ?_
      refine lv_icmp_ge (tgt := 44) hx hb dX12_costTried_21 (of_decide_eq_true rfl) (fun c_6 => ?_) (fun c_6 => ?_)
      · have hfn := (if_pos c_6).symm.trans hfn
        refine lv_iload_n hx hb dX12_costTried_44 rfl (lv_at hl 1 rfl) ?_
        have ho := Option.some.inj hfn
        subst ho
        exact zri hx hb hr hK hP hD hS hQ rfl hlocks dX12_costTried_45
      have hfn := (if_neg c_6).symm.trans hfn
      refine lv_iload_n hx hb dX12_costTried_24 rfl (lv_at hl 1 rfl) ?_
      refine lv_aload_n hx hb dX12_costTried_25 rfl (lv_at hl 2 rfl) ?_
      refine va_get (D := (dC, dI)) (ci := 12) (v := .ref (a0 16)) (C := RX12) (T := TX12) (N := 67) hx hb hts zn_X12_costTried_X12 hown hK hP 0 rfl rfl 16 (of_decide_eq_true rfl) (hts (.fieldLink RX12 59 "ShortEnoughModel" "formatCost" "[I") zw_X12_costTried_1174) (fun _ h9 => h9) rfl dX12_costTried_26 ?_
      refine lv_aload_n hx hb dX12_costTried_29 rfl (lv_at hl 2 rfl) ?_
      refine va_get (D := (dC, dI)) (ci := 12) (v := .ref (a0 39)) (C := RX12) (T := TX12) (N := 67) hx hb hts zn_X12_costTried_X12 hown hK hP 0 rfl rfl 39 (of_decide_eq_true rfl) (hts (.fieldLink RX12 132 "ShortEnoughModel" "tried" "[I") zw_X12_costTried_1175) (fun _ h9 => h9) rfl dX12_costTried_30 ?_
      refine lv_iload_n hx hb dX12_costTried_33 rfl (lv_at hl 0 rfl) ?_
      obtain ⟨h_7, hfn⟩ := zg_s hfn
      refine va_iald hx hb hK hP 4 3 rfl rfl h_7 dX12_costTried_34 ?_
      obtain ⟨h_8, hfn⟩ := zg_s hfn
      refine va_iald hx hb hK hP 6 5 rfl rfl h_8 dX12_costTried_35 ?_
      refine lv_iadd hx hb dX12_costTried_36 ?_
      refine lv_istore_n (lv' := [(1, .int (s_5.1 + (f6 (f4 s_5.2.toNatClampNeg).toNatClampNeg))), (2, .int s_5.2), (0, .ref h0)]) hx hb dX12_costTried_37 rfl hl (of_decide_eq_true rfl) rfl (fun ls hl => ?_)
      refine lv_iinc (v := (s_5.2 + 1)) (lv' := [(2, .int (s_5.2 + 1)), (1, .int (s_5.1 + (f6 (f4 s_5.2.toNatClampNeg).toNatClampNeg))), (0, .ref h0)]) hx hb dX12_costTried_38 hl (k := 1) rfl rfl (of_decide_eq_true rfl) rfl (fun ls hl => ?_)
      refine lv_goto (tgt := 14) hx hb dX12_costTried_41 (of_decide_eq_true rfl) ?_
      exact ih_5 ((s_5.1 + (f6 (f4 s_5.2.toNatClampNeg).toNatClampNeg)), (s_5.2 + 1)) H locs ls hfn hP hD hS (lv_sub hl [0, 1, 2] rfl)
  exact lp_5 _ (((f1 (0 : Int32).toNatClampNeg) * o_1), 0) H locs ls hfn hP hD hS (lv_sub hl [0, 1, 2] rfl)
theorem zn_X12_handPasses_X12 : ∀ w ∈ wsX120, w ∈ wsX12_handPasses := fun _ h => List.mem_cons_of_mem _ (List.mem_append_right _ h)
theorem zw_X12_handPasses_1177 : Cond.fieldLink RX12 112 "ShortEnoughModel" "wideNumber" "I" ∈ wsX12_handPasses := List.mem_of_getElem? (i := 1) (by decide +kernel)
theorem zw_X12_handPasses_1178 : Cond.fieldLink RX12 128 "ShortEnoughModel" "hasHand" "Z" ∈ wsX12_handPasses := List.mem_of_getElem? (i := 2) (by decide +kernel)
theorem zw_X12_handPasses_1179 : Cond.fieldLink RX12 62 "ShortEnoughModel" "numbers" "[I" ∈ wsX12_handPasses := List.mem_of_getElem? (i := 3) (by decide +kernel)
set_option maxHeartbeats 4000000 in
set_option maxRecDepth 100000 in
theorem zf_X12_handPasses (l : Launch) (dC : Nat → ClassId) (dI : Nat → Nat → Nat) (h0 : Nat) (a0 : Nat → Nat) (b0 : Nat → Int32) (c0 : Nat → Int64) (k1 : Nat) (f1 : Nat → Int32) (k2 : Nat) (f2 : Nat → Int32) (k3 : Nat) (f3 : Nat → Int32) (k4 : Nat) (f4 : Nat → Int32) (k5 : Nat) (f5 : Nat → Int32) (k6 : Nat) (f6 : Nat → Int32) (k7 : Nat) (f7 : Nat → Int64) (k8 : Nat) (f8 : Nat → Int64) (k9 : Nat) (f9 : Nat → Int64) (k10 : Nat) (f10 : Nat → Int64) (k11 : Nat) (f11 : Nat → Int32) (k12 : Nat) (f12 : Nat → Int64) (k13 : Nat) (f13 : Nat → Int32) (k14 : Nat) (f14 : Nat → Int32) (o : Int32 × Int32 × Int32 × Int32 × (Nat → Int32) × (Nat → Int64) × (Nat → Int64) × (Nat → Int64)) (hfn : fn_X12_handPasses (c0 34) (b0 38) (b0 41) (b0 42) f1 f2 f3 f4 f5 f6 f7 f8 f9 f10 f11 f12 f13 f14 = some o) (sz : Nat) : zMi l yX12_handPasses wsX12_handPasses ({ frames := 5, cells := 0, slots := 0, locals := 134 }) (dC, dI) vwCl [.ref h0] [(h0, .inr (12, zO a0 b0 c0)), zVi (a0 17) k1 2 f1, zVi (a0 37) k2 14 f2, zVi (a0 39) k3 14 f3, zVi (a0 19) k4 28 f4, zVi (a0 20) k5 28 f5, zVi (a0 21) k6 28 f6, zVl (a0 31) k7 14 f7, zVl (a0 22) k8 28 f8, zVl (a0 23) k9 28 f9, zVl (a0 32) k10 14 f10, zVi (a0 14) k11 8 f11, zVl (a0 40) k12 14 f12, zVi (a0 15) k13 8 f13, zVi (a0 26) k14 28 f14] [(k1, .int), (k2, .int), (k3, .int), (k4, .int), (k5, .int), (k6, .int), (k7, .long), (k8, .long), (k9, .long), (k10, .long), (k11, .int), (k12, .long), (k13, .int), (k14, .int)] (fun r _ => r = o.1 ∧ narrow .boolean (.int o.1) = .int o.1) [(h0, .inr (12, zO a0 (zI (zI (zI b0 33 o.2.1) 41 o.2.2.1) 42 o.2.2.2.1) c0)), zVi (a0 17) k1 2 f1, zVi (a0 37) k2 14 f2, zVi (a0 39) k3 14 o.2.2.2.2.1, zVi (a0 19) k4 28 f4, zVi (a0 20) k5 28 f5, zVi (a0 21) k6 28 f6, zVl (a0 31) k7 14 o.2.2.2.2.2.1, zVl (a0 22) k8 28 f8, zVl (a0 23) k9 28 f9, zVl (a0 32) k10 14 o.2.2.2.2.2.2.1, zVi (a0 14) k11 8 f11, zVl (a0 40) k12 14 o.2.2.2.2.2.2.2, zVi (a0 15) k13 8 f13, zVi (a0 26) k14 28 f14] [(k1, .int), (k2, .int), (k3, .int), (k4, .int), (k5, .int), (k6, .int), (k7, .long), (k8, .long), (k9, .long), (k10, .long), (k11, .int), (k12, .long), (k13, .int), (k14, .int)] sz := by
  refine zgoi (cc := cX12_handPasses) (maxL := 1) (ret := (some .boolean)) (C0 := RX12) (lv0 := [(0, .ref h0)]) zpl_X12 rfl rfl rfl (Nat.le_of_ble_eq_true rfl) ?_
  intro p e s m below meth c A ls Q hx hb hr hts hown hlocks hml hP hK hD hA hS hl hQ
  unfold fn_X12_handPasses at hfn
  refine lv_aload_n hx hb dX12_handPasses_0 rfl (lv_at hl 0 rfl) ?_
  refine lv_iconst (v := (-1)) hx hb dX12_handPasses_1 zci_m1 ?_
  refine va_put (D := (dC, dI)) (ci := 12) (v := .int (-1)) (ty := .int) (C := RX12) (T := TX12) (N := 67) hx hb hts zn_X12_handPasses_X12 tyX12 tyX12_ok nmX12 hown hK hP hD hS 0 rfl rfl 33 (of_decide_eq_true rfl) (hts (.fieldLink RX12 112 "ShortEnoughModel" "wideNumber" "I") zw_X12_handPasses_1177) (fun _ h9 => h9) rfl (tyX12_ok 33 (of_decide_eq_true rfl)) rfl rfl (Nat.le_of_ble_eq_true rfl) dX12_handPasses_2 (fun H locs hP hD hS => ?_)
  have hP : va_P (dC, dI) vwCl [(h0, .inr (12, zO a0 (zI b0 33 (-1)) c0)), zVi (a0 17) k1 2 f1, zVi (a0 37) k2 14 f2, zVi (a0 39) k3 14 f3, zVi (a0 19) k4 28 f4, zVi (a0 20) k5 28 f5, zVi (a0 21) k6 28 f6, zVl (a0 31) k7 14 f7, zVl (a0 22) k8 28 f8, zVl (a0 23) k9 28 f9, zVl (a0 32) k10 14 f10, zVi (a0 14) k11 8 f11, zVl (a0 40) k12 14 f12, zVi (a0 15) k13 8 f13, zVi (a0 26) k14 28 f14] H := hP
  have hD := zDW hD hP rfl
  refine lv_aload_n hx hb dX12_handPasses_5 rfl (lv_at hl 0 rfl) ?_
  refine va_get (D := (dC, dI)) (ci := 12) (v := .int (b0 38)) (C := RX12) (T := TX12) (N := 67) hx hb hts zn_X12_handPasses_X12 hown hK hP 0 rfl rfl 38 (of_decide_eq_true rfl) (hts (.fieldLink RX12 128 "ShortEnoughModel" "hasHand" "Z") zw_X12_handPasses_1178) (fun _ h9 => h9) rfl dX12_handPasses_6 ?_
  refine lv_if_eq (tgt := 21) hx hb dX12_handPasses_9 (of_decide_eq_true rfl) (fun c_1 => ?_) (fun c_1 => ?_)
  · have hfn := (if_pos c_1).symm.trans hfn
    refine lv_iconst (v := 0) hx hb dX12_handPasses_21 zci_0 ?_
    have ho := Option.some.inj hfn
    subst ho
    exact zrz hx hb hr rfl hK hP hD hS hQ ⟨rfl, zB0⟩ hlocks dX12_handPasses_22
  have hfn := (if_neg c_1).symm.trans hfn
  refine lv_aload_n hx hb dX12_handPasses_12 rfl (lv_at hl 0 rfl) ?_
  refine va_get (D := (dC, dI)) (ci := 12) (v := .ref (a0 17)) (C := RX12) (T := TX12) (N := 67) hx hb hts zn_X12_handPasses_X12 hown hK hP 0 rfl rfl 17 (of_decide_eq_true rfl) (hts (.fieldLink RX12 62 "ShortEnoughModel" "numbers" "[I") zw_X12_handPasses_1179) (fun _ h9 => h9) rfl dX12_handPasses_13 ?_
  refine lv_iconst (v := 0) hx hb dX12_handPasses_16 zci_0 ?_
  refine va_iald hx hb hK hP 1 0 rfl rfl (zv_in (by decide +kernel)) dX12_handPasses_17 ?_
  refine lv_if_ne (tgt := 23) hx hb dX12_handPasses_18 (of_decide_eq_true rfl) (fun c_2 => ?_) (fun c_2 => ?_)
  · have hfn := (if_neg c_2).symm.trans hfn
    refine lv_aload_n hx hb dX12_handPasses_23 rfl (lv_at hl 0 rfl) ?_
    obtain ⟨o_3, hqo_3, hfn⟩ := zb_s hfn
    refine zcVv (ci := 12) (rest := []) (pc' := 27) (ws' := [(h0, .inr (12, zO a0 (zI b0 33 (-1)) c0)), zVi (a0 17) k1 2 f1, zVi (a0 37) k2 14 f2, zVi (a0 39) k3 14 o_3, zVi (a0 19) k4 28 f4, zVi (a0 20) k5 28 f5, zVi (a0 21) k6 28 f6, zVl (a0 31) k7 14 f7, zVl (a0 22) k8 28 f8, zVl (a0 23) k9 28 f9, zVl (a0 32) k10 14 f10, zVi (a0 14) k11 8 f11, zVl (a0 40) k12 14 f12, zVi (a0 15) k13 8 f13, zVi (a0 26) k14 28 f14]) hP hK hD hS hA ⟨hx, hb, hml, hown, hts⟩ (zf_X12_triesHand l dC dI h0 a0 (zI b0 33 (-1)) c0 k1 f1 k2 f2 k3 f3 o_3 hqo_3 H.size) (cwV 0 hts gX12_handPasses_X12_triesHand rfl rfl rfl zhd_X12_triesHand ⟨Nat.le_of_ble_eq_true rfl, Nat.le_of_ble_eq_true rfl⟩) [0, 1, 2, 3] rfl (of_decide_eq_true rfl) [0, 1, 2] rfl rfl rfl rfl hl.1 rfl (Nat.le_of_ble_eq_true rfl) dX12_handPasses_24 ⟨Nat.le_of_ble_eq_true rfl, Nat.le_of_ble_eq_true rfl⟩ [some 0, some 1, some 2, some 3] (of_decide_eq_true rfl) (of_decide_eq_true rfl) rfl rfl rfl (fun H locs hP hD hS => ?_)
    refine lv_aload_n hx hb dX12_handPasses_27 rfl (lv_at hl 0 rfl) ?_
    obtain ⟨o_7, hqo_7, hfn⟩ := zb_s hfn
    refine zcVb (ci := 12) (rest := []) (pc' := 31) (ws' := [(h0, .inr (12, zO a0 (zI (zI (zI b0 33 (-1)) 41 o_7.2.1) 42 o_7.2.2.1) c0)), zVi (a0 17) k1 2 f1, zVi (a0 37) k2 14 f2, zVi (a0 39) k3 14 o_3, zVi (a0 19) k4 28 f4, zVi (a0 20) k5 28 f5, zVi (a0 21) k6 28 f6, zVl (a0 31) k7 14 o_7.2.2.2.1, zVl (a0 22) k8 28 f8, zVl (a0 23) k9 28 f9, zVl (a0 32) k10 14 o_7.2.2.2.2.1, zVi (a0 14) k11 8 f11, zVl (a0 40) k12 14 o_7.2.2.2.2.2, zVi (a0 15) k13 8 f13, zVi (a0 26) k14 28 f14]) hP hK hD hS hA ⟨hx, hb, hml, hown, hts⟩ (zf_X12_passes l dC dI h0 a0 (zI b0 33 (-1)) c0 k1 f1 k4 f4 k5 f5 k6 f6 k7 f7 k8 f8 k9 f9 k10 f10 k3 o_3 k11 f11 k12 f12 k13 f13 k14 f14 o_7 hqo_7 H.size) (cwV 0 hts gX12_handPasses_X12_passes rfl rfl rfl zhd_X12_passes ⟨Nat.le_of_ble_eq_true rfl, Nat.le_of_ble_eq_true rfl⟩) [0, 1, 4, 5, 6, 7, 8, 9, 10, 3, 11, 12, 13, 14] rfl (of_decide_eq_true rfl) [0, 3, 4, 5, 6, 7, 8, 9, 2, 10, 11, 12, 13] rfl rfl rfl rfl hl.1 rfl (Nat.le_of_ble_eq_true rfl) dX12_handPasses_28 ⟨Nat.le_of_ble_eq_true rfl, Nat.le_of_ble_eq_true rfl⟩ [some 0, some 1, none, some 9, some 2, some 3, some 4, some 5, some 6, some 7, some 8, some 10, some 11, some 12, some 13] (of_decide_eq_true rfl) (of_decide_eq_true rfl) rfl rfl rfl (fun H locs hw_10n hP hD hS => ?_)
    have ho := Option.some.inj hfn
    subst ho
    exact zrz hx hb hr hw_10n hK hP hD hS hQ ⟨rfl, hw_10n⟩ hlocks dX12_handPasses_31
  have hfn := (if_pos c_2).symm.trans hfn
  refine lv_iconst (v := 0) hx hb dX12_handPasses_21 zci_0 ?_
  have ho := Option.some.inj hfn
  subst ho
  exact zrz hx hb hr rfl hK hP hD hS hQ ⟨rfl, zB0⟩ hlocks dX12_handPasses_22
theorem zn_X12_chosen_X12 : ∀ w ∈ wsX120, w ∈ wsX12_chosen := fun _ h => List.mem_cons_of_mem _ (List.mem_append_right _ h)
theorem zw_X12_chosen_1181 : Cond.fieldLink RX12 128 "ShortEnoughModel" "hasHand" "Z" ∈ wsX12_chosen := List.mem_of_getElem? (i := 1) (by decide +kernel)
theorem zw_X12_chosen_1182 : Cond.fieldLink RX12 125 "ShortEnoughModel" "hand" "[I" ∈ wsX12_chosen := List.mem_of_getElem? (i := 2) (by decide +kernel)
set_option maxHeartbeats 4000000 in
set_option maxRecDepth 100000 in
theorem zf_X12_chosen (l : Launch) (dC : Nat → ClassId) (dI : Nat → Nat → Nat) (h0 : Nat) (p1 : Int32) (a0 : Nat → Nat) (b0 : Nat → Int32) (c0 : Nat → Int64) (k1 : Nat) (f1 : Nat → Int32) (k2 : Nat) (f2 : Nat → Int32) (o : Int32) (hfn : fn_X12_chosen p1 (b0 38) f1 f2 = some o) (sz : Nat) : zMi l yX12_chosen wsX12_chosen ({ frames := 2, cells := 0, slots := 0, locals := 46 }) (dC, dI) vwCl [.ref h0, .int p1] [(h0, .inr (12, zO a0 b0 c0)), zVi (a0 17) k1 2 f1, zVi (a0 37) k2 14 f2] [(k1, .int), (k2, .int)] (fun r _ => r = o) [(h0, .inr (12, zO a0 b0 c0)), zVi (a0 17) k1 2 f1, zVi (a0 37) k2 14 f2] [(k1, .int), (k2, .int)] sz := by
  refine zgoi (cc := cX12_chosen) (maxL := 2) (ret := (some .int)) (C0 := RX12) (lv0 := [(0, .ref h0), (1, .int p1)]) zpl_X12 rfl rfl rfl (Nat.le_of_ble_eq_true rfl) ?_
  intro p e s m below meth c A ls Q hx hb hr hts hown hlocks hml hP hK hD hA hS hl hQ
  unfold fn_X12_chosen at hfn
  refine lv_aload_n hx hb dX12_chosen_0 rfl (lv_at hl 0 rfl) ?_
  refine va_get (D := (dC, dI)) (ci := 12) (v := .int (b0 38)) (C := RX12) (T := TX12) (N := 67) hx hb hts zn_X12_chosen_X12 hown hK hP 0 rfl rfl 38 (of_decide_eq_true rfl) (hts (.fieldLink RX12 128 "ShortEnoughModel" "hasHand" "Z") zw_X12_chosen_1181) (fun _ h9 => h9) rfl dX12_chosen_1 ?_
  refine lv_if_eq (tgt := 24) hx hb dX12_chosen_4 (of_decide_eq_true rfl) (fun c_1 => ?_) (fun c_1 => ?_)
  · have hfn := (if_pos c_1).symm.trans hfn
    refine lv_iconst (v := (-1)) hx hb dX12_chosen_24 zci_m1 ?_
    have ho := Option.some.inj hfn
    subst ho
    exact zri hx hb hr hK hP hD hS hQ rfl hlocks dX12_chosen_25
  have hfn := (if_neg c_1).symm.trans hfn
  refine lv_aload_n hx hb dX12_chosen_7 rfl (lv_at hl 0 rfl) ?_
  refine lv_iload_n hx hb dX12_chosen_8 rfl (lv_at hl 1 rfl) ?_
  obtain ⟨o_2, hqo_2, hfn⟩ := zb_s hfn
  refine zcVb (ci := 12) (rest := []) (pc' := 12) (ws' := [(h0, .inr (12, zO a0 b0 c0)), zVi (a0 17) k1 2 f1, zVi (a0 37) k2 14 f2]) hP hK hD hS hA ⟨hx, hb, hml, hown, hts⟩ (zf_X12_isNumber l dC dI h0 p1 a0 b0 c0 k1 f1 o_2 hqo_2 s.heap.size) (cwV 1 hts gX12_chosen_X12_isNumber rfl rfl rfl zhd_X12_isNumber ⟨Nat.le_of_ble_eq_true rfl, Nat.le_of_ble_eq_true rfl⟩) [0, 1] rfl (of_decide_eq_true rfl) [0] rfl rfl rfl rfl hl.1 rfl (Nat.le_of_ble_eq_true rfl) dX12_chosen_9 ⟨Nat.le_of_ble_eq_true rfl, Nat.le_of_ble_eq_true rfl⟩ [some 0, some 1] (of_decide_eq_true rfl) (of_decide_eq_true rfl) rfl rfl rfl (fun H locs hw_5n hP hD hS => ?_)
  refine lv_if_eq (tgt := 24) hx hb dX12_chosen_12 (of_decide_eq_true rfl) (fun c_6 => ?_) (fun c_6 => ?_)
  · have hfn := (if_pos c_6).symm.trans hfn
    refine lv_iconst (v := (-1)) hx hb dX12_chosen_24 zci_m1 ?_
    have ho := Option.some.inj hfn
    subst ho
    exact zri hx hb hr hK hP hD hS hQ rfl hlocks dX12_chosen_25
  have hfn := (if_neg c_6).symm.trans hfn
  refine lv_aload_n hx hb dX12_chosen_15 rfl (lv_at hl 0 rfl) ?_
  refine va_get (D := (dC, dI)) (ci := 12) (v := .ref (a0 37)) (C := RX12) (T := TX12) (N := 67) hx hb hts zn_X12_chosen_X12 hown hK hP 0 rfl rfl 37 (of_decide_eq_true rfl) (hts (.fieldLink RX12 125 "ShortEnoughModel" "hand" "[I") zw_X12_chosen_1182) (fun _ h9 => h9) rfl dX12_chosen_16 ?_
  refine lv_iload_n hx hb dX12_chosen_19 rfl (lv_at hl 1 rfl) ?_
  obtain ⟨h_7, hfn⟩ := zg_s hfn
  refine va_iald hx hb hK hP 2 1 rfl rfl h_7 dX12_chosen_20 ?_
  refine lv_goto (tgt := 25) hx hb dX12_chosen_21 (of_decide_eq_true rfl) ?_
  have ho := Option.some.inj hfn
  subst ho
  exact zri hx hb hr hK hP hD hS hQ rfl hlocks dX12_chosen_25
theorem zn_X12_choose_X12 : ∀ w ∈ wsX120, w ∈ wsX12_choose := fun _ h => List.mem_cons_of_mem _ (List.mem_append_right _ h)
theorem zw_X12_choose_1184 : Cond.fieldLink RX12 128 "ShortEnoughModel" "hasHand" "Z" ∈ wsX12_choose := List.mem_of_getElem? (i := 1) (by decide +kernel)
theorem zw_X12_choose_1185 : Cond.fieldLink RX12 93 "ShortEnoughModel" "groupOf" "[I" ∈ wsX12_choose := List.mem_of_getElem? (i := 2) (by decide +kernel)
theorem zw_X12_choose_1186 : Cond.fieldLink RX12 125 "ShortEnoughModel" "hand" "[I" ∈ wsX12_choose := List.mem_of_getElem? (i := 3) (by decide +kernel)
theorem zw_X12_choose_1187 : Cond.fieldLink RX12 62 "ShortEnoughModel" "numbers" "[I" ∈ wsX12_choose := List.mem_of_getElem? (i := 4) (by decide +kernel)
set_option maxHeartbeats 4000000 in
set_option maxRecDepth 100000 in
theorem zf_X12_choose (l : Launch) (dC : Nat → ClassId) (dI : Nat → Nat → Nat) (h0 : Nat) (p1 : Int32) (p2 : Int32) (a0 : Nat → Nat) (b0 : Nat → Int32) (c0 : Nat → Int64) (k1 : Nat) (f1 : Nat → Int32) (k2 : Nat) (f2 : Nat → Int32) (k3 : Nat) (f3 : Nat → Int32) (k4 : Nat) (f4 : Nat → Int32) (k5 : Nat) (f5 : Nat → Int32) (k6 : Nat) (f6 : Nat → Int32) (o : Int32 × (Nat → Int32) × (Nat → Int32)) (hfn : fn_X12_choose p1 p2 (b0 38) f1 f2 f3 f4 f5 f6 = some o) (sz : Nat) : zMi l yX12_choose wsX12_choose ({ frames := 2, cells := 0, slots := 0, locals := 46 }) (dC, dI) vwCl [.ref h0, .int p1, .int p2] [(h0, .inr (12, zO a0 b0 c0)), zVi (a0 2) k1 5 f1, zVi (a0 17) k2 2 f2, zVi (a0 12) k3 2 f3, zVi (a0 27) k4 28 f4, zVi (a0 25) k5 28 f5, zVi (a0 37) k6 14 f6] [(k1, .int), (k2, .int), (k3, .int), (k4, .int), (k5, .int), (k6, .int)] (fun r _ => r = o.1) [(h0, .inr (12, zO a0 b0 c0)), zVi (a0 2) k1 5 o.2.1, zVi (a0 17) k2 2 f2, zVi (a0 12) k3 2 f3, zVi (a0 27) k4 28 f4, zVi (a0 25) k5 28 f5, zVi (a0 37) k6 14 o.2.2] [(k1, .int), (k2, .int), (k3, .int), (k4, .int), (k5, .int), (k6, .int)] sz := by
  refine zgoi (cc := cX12_choose) (maxL := 5) (ret := (some .int)) (C0 := RX12) (lv0 := [(0, .ref h0), (1, .int p1), (2, .int p2)]) zpl_X12 rfl rfl rfl (Nat.le_of_ble_eq_true rfl) ?_
  intro p e s m below meth c A ls Q hx hb hr hts hown hlocks hml hP hK hD hA hS hl hQ
  unfold fn_X12_choose at hfn
  refine lv_aload_n hx hb dX12_choose_0 rfl (lv_at hl 0 rfl) ?_
  refine va_get (D := (dC, dI)) (ci := 12) (v := .int (b0 38)) (C := RX12) (T := TX12) (N := 67) hx hb hts zn_X12_choose_X12 hown hK hP 0 rfl rfl 38 (of_decide_eq_true rfl) (hts (.fieldLink RX12 128 "ShortEnoughModel" "hasHand" "Z") zw_X12_choose_1184) (fun _ h9 => h9) rfl dX12_choose_1 ?_
  refine lv_if_eq (tgt := 36) hx hb dX12_choose_4 (of_decide_eq_true rfl) (fun c_1 => ?_) (fun c_1 => ?_)
  · have hfn := (if_pos c_1).symm.trans hfn
    refine lv_aload_n hx hb dX12_choose_36 rfl (lv_at hl 0 rfl) ?_
    refine lv_iconst (v := 2) hx hb dX12_choose_37 zci_2 ?_
    obtain ⟨o_2, hqo_2, hfn⟩ := zb_s hfn
    refine zcVi (ci := 12) (rest := []) (pc' := 41) (ws' := [(h0, .inr (12, zO a0 b0 c0)), zVi (a0 2) k1 5 o_2.2, zVi (a0 17) k2 2 f2, zVi (a0 12) k3 2 f3, zVi (a0 27) k4 28 f4, zVi (a0 25) k5 28 f5, zVi (a0 37) k6 14 f6]) hP hK hD hS hA ⟨hx, hb, hml, hown, hts⟩ (zf_X12_refuses l dC dI h0 2 a0 b0 c0 k1 f1 o_2 hqo_2 s.heap.size) (cwV 1 hts gX12_choose_X12_refuses rfl rfl rfl zhd_X12_refuses ⟨Nat.le_of_ble_eq_true rfl, Nat.le_of_ble_eq_true rfl⟩) [0, 1] rfl (of_decide_eq_true rfl) [0] rfl rfl rfl rfl hl.1 rfl (Nat.le_of_ble_eq_true rfl) dX12_choose_38 ⟨Nat.le_of_ble_eq_true rfl, Nat.le_of_ble_eq_true rfl⟩ [some 0, some 1] (of_decide_eq_true rfl) (of_decide_eq_true rfl) rfl rfl rfl (fun H locs hP hD hS => ?_)
    have ho := Option.some.inj hfn
    subst ho
    exact zri hx hb hr hK hP hD hS hQ rfl hlocks dX12_choose_41
  have hfn := (if_neg c_1).symm.trans hfn
  refine lv_aload_n hx hb dX12_choose_7 rfl (lv_at hl 0 rfl) ?_
  refine lv_iload_n hx hb dX12_choose_8 rfl (lv_at hl 1 rfl) ?_
  obtain ⟨o_6, hqo_6, hfn⟩ := zb_s hfn
  refine zcVb (ci := 12) (rest := []) (pc' := 12) (ws' := [(h0, .inr (12, zO a0 b0 c0)), zVi (a0 2) k1 5 f1, zVi (a0 17) k2 2 f2, zVi (a0 12) k3 2 f3, zVi (a0 27) k4 28 f4, zVi (a0 25) k5 28 f5, zVi (a0 37) k6 14 f6]) hP hK hD hS hA ⟨hx, hb, hml, hown, hts⟩ (zf_X12_isNumber l dC dI h0 p1 a0 b0 c0 k2 f2 o_6 hqo_6 s.heap.size) (cwV 1 hts gX12_choose_X12_isNumber rfl rfl rfl zhd_X12_isNumber ⟨Nat.le_of_ble_eq_true rfl, Nat.le_of_ble_eq_true rfl⟩) [0, 2] rfl (of_decide_eq_true rfl) [1] rfl rfl rfl rfl hl.1 rfl (Nat.le_of_ble_eq_true rfl) dX12_choose_9 ⟨Nat.le_of_ble_eq_true rfl, Nat.le_of_ble_eq_true rfl⟩ [some 0, none, some 1] (of_decide_eq_true rfl) (of_decide_eq_true rfl) rfl rfl rfl (fun H locs hw_9n hP hD hS => ?_)
  refine lv_if_eq (tgt := 36) hx hb dX12_choose_12 (of_decide_eq_true rfl) (fun c_10 => ?_) (fun c_10 => ?_)
  · have hfn := (if_pos c_10).symm.trans hfn
    refine lv_aload_n hx hb dX12_choose_36 rfl (lv_at hl 0 rfl) ?_
    refine lv_iconst (v := 2) hx hb dX12_choose_37 zci_2 ?_
    obtain ⟨o_11, hqo_11, hfn⟩ := zb_s hfn
    refine zcVi (ci := 12) (rest := []) (pc' := 41) (ws' := [(h0, .inr (12, zO a0 b0 c0)), zVi (a0 2) k1 5 o_11.2, zVi (a0 17) k2 2 f2, zVi (a0 12) k3 2 f3, zVi (a0 27) k4 28 f4, zVi (a0 25) k5 28 f5, zVi (a0 37) k6 14 f6]) hP hK hD hS hA ⟨hx, hb, hml, hown, hts⟩ (zf_X12_refuses l dC dI h0 2 a0 b0 c0 k1 f1 o_11 hqo_11 H.size) (cwV 1 hts gX12_choose_X12_refuses rfl rfl rfl zhd_X12_refuses ⟨Nat.le_of_ble_eq_true rfl, Nat.le_of_ble_eq_true rfl⟩) [0, 1] rfl (of_decide_eq_true rfl) [0] rfl rfl rfl rfl hl.1 rfl (Nat.le_of_ble_eq_true rfl) dX12_choose_38 ⟨Nat.le_of_ble_eq_true rfl, Nat.le_of_ble_eq_true rfl⟩ [some 0, some 1] (of_decide_eq_true rfl) (of_decide_eq_true rfl) rfl rfl rfl (fun H locs hP hD hS => ?_)
    have ho := Option.some.inj hfn
    subst ho
    exact zri hx hb hr hK hP hD hS hQ rfl hlocks dX12_choose_41
  have hfn := (if_neg c_10).symm.trans hfn
  refine lv_aload_n hx hb dX12_choose_15 rfl (lv_at hl 0 rfl) ?_
  refine lv_iload_n hx hb dX12_choose_16 rfl (lv_at hl 2 rfl) ?_
  obtain ⟨o_15, hqo_15, hfn⟩ := zb_s hfn
  refine zcVb (ci := 12) (rest := []) (pc' := 20) (ws' := [(h0, .inr (12, zO a0 b0 c0)), zVi (a0 2) k1 5 f1, zVi (a0 17) k2 2 f2, zVi (a0 12) k3 2 f3, zVi (a0 27) k4 28 f4, zVi (a0 25) k5 28 f5, zVi (a0 37) k6 14 f6]) hP hK hD hS hA ⟨hx, hb, hml, hown, hts⟩ (zf_X12_isFormat l dC dI h0 p2 a0 b0 c0 k3 f3 o_15 hqo_15 H.size) (cwV 1 hts gX12_choose_X12_isFormat rfl rfl rfl zhd_X12_isFormat ⟨Nat.le_of_ble_eq_true rfl, Nat.le_of_ble_eq_true rfl⟩) [0, 3] rfl (of_decide_eq_true rfl) [2] rfl rfl rfl rfl hl.1 rfl (Nat.le_of_ble_eq_true rfl) dX12_choose_17 ⟨Nat.le_of_ble_eq_true rfl, Nat.le_of_ble_eq_true rfl⟩ [some 0, none, none, some 1] (of_decide_eq_true rfl) (of_decide_eq_true rfl) rfl rfl rfl (fun H locs hw_18n hP hD hS => ?_)
  refine lv_if_eq (tgt := 36) hx hb dX12_choose_20 (of_decide_eq_true rfl) (fun c_19 => ?_) (fun c_19 => ?_)
  · have hfn := (if_pos c_19).symm.trans hfn
    refine lv_aload_n hx hb dX12_choose_36 rfl (lv_at hl 0 rfl) ?_
    refine lv_iconst (v := 2) hx hb dX12_choose_37 zci_2 ?_
    obtain ⟨o_20, hqo_20, hfn⟩ := zb_s hfn
    refine zcVi (ci := 12) (rest := []) (pc' := 41) (ws' := [(h0, .inr (12, zO a0 b0 c0)), zVi (a0 2) k1 5 o_20.2, zVi (a0 17) k2 2 f2, zVi (a0 12) k3 2 f3, zVi (a0 27) k4 28 f4, zVi (a0 25) k5 28 f5, zVi (a0 37) k6 14 f6]) hP hK hD hS hA ⟨hx, hb, hml, hown, hts⟩ (zf_X12_refuses l dC dI h0 2 a0 b0 c0 k1 f1 o_20 hqo_20 H.size) (cwV 1 hts gX12_choose_X12_refuses rfl rfl rfl zhd_X12_refuses ⟨Nat.le_of_ble_eq_true rfl, Nat.le_of_ble_eq_true rfl⟩) [0, 1] rfl (of_decide_eq_true rfl) [0] rfl rfl rfl rfl hl.1 rfl (Nat.le_of_ble_eq_true rfl) dX12_choose_38 ⟨Nat.le_of_ble_eq_true rfl, Nat.le_of_ble_eq_true rfl⟩ [some 0, some 1] (of_decide_eq_true rfl) (of_decide_eq_true rfl) rfl rfl rfl (fun H locs hP hD hS => ?_)
    have ho := Option.some.inj hfn
    subst ho
    exact zri hx hb hr hK hP hD hS hQ rfl hlocks dX12_choose_41
  have hfn := (if_neg c_19).symm.trans hfn
  refine lv_aload_n hx hb dX12_choose_23 rfl (lv_at hl 0 rfl) ?_
  refine lv_aload_n hx hb dX12_choose_24 rfl (lv_at hl 0 rfl) ?_
  refine va_get (D := (dC, dI)) (ci := 12) (v := .ref (a0 27)) (C := RX12) (T := TX12) (N := 67) hx hb hts zn_X12_choose_X12 hown hK hP 0 rfl rfl 27 (of_decide_eq_true rfl) (hts (.fieldLink RX12 93 "ShortEnoughModel" "groupOf" "[I") zw_X12_choose_1185) (fun _ h9 => h9) rfl dX12_choose_25 ?_
  refine lv_iload_n hx hb dX12_choose_28 rfl (lv_at hl 1 rfl) ?_
  obtain ⟨h_24, hfn⟩ := zg_s hfn
  refine va_iald hx hb hK hP 4 3 rfl rfl h_24 dX12_choose_29 ?_
  obtain ⟨o_25, hqo_25, hfn⟩ := zb_s hfn
  refine zcVb (ci := 12) (rest := []) (pc' := 33) (ws' := [(h0, .inr (12, zO a0 b0 c0)), zVi (a0 2) k1 5 f1, zVi (a0 17) k2 2 f2, zVi (a0 12) k3 2 f3, zVi (a0 27) k4 28 f4, zVi (a0 25) k5 28 f5, zVi (a0 37) k6 14 f6]) hP hK hD hS hA ⟨hx, hb, hml, hown, hts⟩ (zf_X12_isFree l dC dI h0 (f4 p1.toNatClampNeg) a0 b0 c0 k2 f2 k4 f4 k5 f5 o_25 hqo_25 H.size) (cwV 1 hts gX12_choose_X12_isFree rfl rfl rfl zhd_X12_isFree ⟨Nat.le_of_ble_eq_true rfl, Nat.le_of_ble_eq_true rfl⟩) [0, 2, 4, 5] rfl (of_decide_eq_true rfl) [1, 3, 4] rfl rfl rfl rfl hl.1 rfl (Nat.le_of_ble_eq_true rfl) dX12_choose_30 ⟨Nat.le_of_ble_eq_true rfl, Nat.le_of_ble_eq_true rfl⟩ [some 0, none, some 1, none, some 2, some 3] (of_decide_eq_true rfl) (of_decide_eq_true rfl) rfl rfl rfl (fun H locs hw_28n hP hD hS => ?_)
  refine lv_if_ne (tgt := 42) hx hb dX12_choose_33 (of_decide_eq_true rfl) (fun c_29 => ?_) (fun c_29 => ?_)
  · have hfn := (if_neg c_29).symm.trans hfn
    refine lv_aload_n hx hb dX12_choose_42 rfl (lv_at hl 0 rfl) ?_
    refine va_get (D := (dC, dI)) (ci := 12) (v := .ref (a0 37)) (C := RX12) (T := TX12) (N := 67) hx hb hts zn_X12_choose_X12 hown hK hP 0 rfl rfl 37 (of_decide_eq_true rfl) (hts (.fieldLink RX12 125 "ShortEnoughModel" "hand" "[I") zw_X12_choose_1186) (fun _ h9 => h9) rfl dX12_choose_43 ?_
    refine lv_iload_n hx hb dX12_choose_46 rfl (lv_at hl 1 rfl) ?_
    obtain ⟨h_30, hfn⟩ := zg_s hfn
    refine va_iald hx hb hK hP 6 5 rfl rfl h_30 dX12_choose_47 ?_
    refine lv_istore_n (lv' := [(3, .int (f6 p1.toNatClampNeg)), (0, .ref h0), (1, .int p1), (2, .int p2)]) hx hb dX12_choose_48 rfl hl (of_decide_eq_true rfl) rfl (fun ls hl => ?_)
    refine lv_iconst (v := 0) hx hb dX12_choose_49 zci_0 ?_
    refine lv_istore (lv' := [(4, .int 0), (3, .int (f6 p1.toNatClampNeg)), (0, .ref h0), (1, .int p1), (2, .int p2)]) hx hb dX12_choose_50 hl (of_decide_eq_true rfl) rfl (fun ls hl => ?_)
    obtain ⟨bd_31, ebd_31, hfn⟩ := zl_g hfn
    have lp_31 : ∀ (n : Nat) (s_31 : Int32 × (Nat → Int32)) (H : Heap) (locs : List Loc) (ls : Array Slot), zl bd_31 n s_31 = some o → va_P (dC, dI) vwCl [(h0, .inr (12, zO a0 b0 c0)), zVi (a0 2) k1 5 f1, zVi (a0 17) k2 2 f2, zVi (a0 12) k3 2 f3, zVi (a0 27) k4 28 f4, zVi (a0 25) k5 28 f5, zVi (a0 37) k6 14 s_31.2] H → va_D A [(h0, .inr (12, zO a0 b0 c0)), zVi (a0 2) k1 5 f1, zVi (a0 17) k2 2 f2, zVi (a0 12) k3 2 f3, zVi (a0 27) k4 28 f4, zVi (a0 25) k5 28 f5, zVi (a0 37) k6 14 s_31.2] → va_S A s.heap H locs → lv_has ls 5 [(4, .int s_31.1), (3, .int (f6 p1.toNatClampNeg)), (0, .ref h0), (1, .int p1), (2, .int p2)] → W p l e (headSpec wsX12_choose ({ frames := 2, cells := 0, slots := 0, locals := 46 })).room s m ([.ref h0, .int p1, .int p2] : List Value).toArray below meth c H locs 0 0 Q (F0 m 52 ls []) := by
      intro n
      induction n with
      | zero => exact fun _ _ _ _ hfn => (zl_0 hfn).elim
      | succ n ih_31 =>
        intro s_31 H locs ls hfn hP hD hS hl
        have hfn := zl_s ebd_31 hfn
        refine lv_iload hx hb dX12_choose_52 (lv_at hl 0 rfl) ?_
        refine lv_aload_n hx hb dX12_choose_54 rfl (lv_at hl 2 rfl) ?_
        refine va_get (D := (dC, dI)) (ci := 12) (v := .ref (a0 17)) (C := RX12) (T := TX12) (N := 67) hx hb hts zn_X12_choose_X12 hown hK hP 0 rfl rfl 17 (of_decide_eq_true rfl) (hts (.fieldLink RX12 62 "ShortEnoughModel" "numbers" "[I") zw_X12_choose_1187) (fun _ h9 => h9) rfl dX12_choose_55 ?_
        refine lv_iconst (v := 0) hx hb dX12_choose_58 zci_0 ?_
        refine va_iald hx hb hK hP 2 1 rfl rfl (zv_in (by decide +kernel)) dX12_choose_59 ?_
        refine lv_icmp_ge (tgt := 103) hx hb dX12_choose_60 (of_decide_eq_true rfl) (fun c_32 => ?_) (fun c_32 => ?_)
        · have hfn := (if_pos c_32).symm.trans hfn
          refine lv_iload_n hx hb dX12_choose_103 rfl (lv_at hl 1 rfl) ?_
          have ho := Option.some.inj hfn
          subst ho
          exact zri hx hb hr hK hP hD hS hQ rfl hlocks dX12_choose_104
        have hfn := (if_neg c_32).symm.trans hfn
        refine lv_aload_n hx hb dX12_choose_63 rfl (lv_at hl 2 rfl) ?_
        refine va_get (D := (dC, dI)) (ci := 12) (v := .ref (a0 37)) (C := RX12) (T := TX12) (N := 67) hx hb hts zn_X12_choose_X12 hown hK hP 0 rfl rfl 37 (of_decide_eq_true rfl) (hts (.fieldLink RX12 125 "ShortEnoughModel" "hand" "[I") zw_X12_choose_1186) (fun _ h9 => h9) rfl dX12_choose_64 ?_
        refine lv_iload hx hb dX12_choose_67 (lv_at hl 0 rfl) ?_
        refine lv_aload_n hx hb dX12_choose_69 rfl (lv_at hl 2 rfl) ?_
        refine va_get (D := (dC, dI)) (ci := 12) (v := .ref (a0 27)) (C := RX12) (T := TX12) (N := 67) hx hb hts zn_X12_choose_X12 hown hK hP 0 rfl rfl 27 (of_decide_eq_true rfl) (hts (.fieldLink RX12 93 "ShortEnoughModel" "groupOf" "[I") zw_X12_choose_1185) (fun _ h9 => h9) rfl dX12_choose_70 ?_
        refine lv_iload hx hb dX12_choose_73 (lv_at hl 0 rfl) ?_
        obtain ⟨h_33, hfn⟩ := zg_s hfn
        refine va_iald hx hb hK hP 4 3 rfl rfl h_33 dX12_choose_75 ?_
        refine lv_aload_n hx hb dX12_choose_76 rfl (lv_at hl 2 rfl) ?_
        refine va_get (D := (dC, dI)) (ci := 12) (v := .ref (a0 27)) (C := RX12) (T := TX12) (N := 67) hx hb hts zn_X12_choose_X12 hown hK hP 0 rfl rfl 27 (of_decide_eq_true rfl) (hts (.fieldLink RX12 93 "ShortEnoughModel" "groupOf" "[I") zw_X12_choose_1185) (fun _ h9 => h9) rfl dX12_choose_77 ?_
        refine lv_iload_n hx hb dX12_choose_80 rfl (lv_at hl 3 rfl) ?_
        obtain ⟨h_34, hfn⟩ := zg_s hfn
        refine va_iald hx hb hK hP 4 3 rfl rfl h_34 dX12_choose_81 ?_
        refine lv_icmp_ne (tgt := 89) hx hb dX12_choose_82 (of_decide_eq_true rfl) (fun c_35 => ?_) (fun c_35 => ?_)
        · have hfn := (if_neg c_35).symm.trans hfn
          refine lv_aload_n hx hb dX12_choose_89 rfl (lv_at hl 2 rfl) ?_
          refine va_get (D := (dC, dI)) (ci := 12) (v := .ref (a0 37)) (C := RX12) (T := TX12) (N := 67) hx hb hts zn_X12_choose_X12 hown hK hP 0 rfl rfl 37 (of_decide_eq_true rfl) (hts (.fieldLink RX12 125 "ShortEnoughModel" "hand" "[I") zw_X12_choose_1186) (fun _ h9 => h9) rfl dX12_choose_90 ?_
          refine lv_iload hx hb dX12_choose_93 (lv_at hl 0 rfl) ?_
          obtain ⟨h_36, hfn⟩ := zg_s hfn
          refine va_iald hx hb hK hP 6 5 rfl rfl h_36 dX12_choose_95 ?_
          refine va_iast hx hb hK hP hD hS 6 5 rfl rfl h_36 dX12_choose_96 (fun H locs hP hD hS => ?_)
          obtain ⟨g_37, eg_37⟩ : ∃ g : Nat → Int32, g = (upd s_31.2 s_31.1.toNatClampNeg (s_31.2 s_31.1.toNatClampNeg)) := ⟨_, rfl⟩
          have hfn := zn_s hfn eg_37
          have hP : va_P (dC, dI) vwCl [(h0, .inr (12, zO a0 b0 c0)), zVi (a0 2) k1 5 f1, zVi (a0 17) k2 2 f2, zVi (a0 12) k3 2 f3, zVi (a0 27) k4 28 f4, zVi (a0 25) k5 28 f5, zVi (a0 37) k6 14 g_37] H := by rw [eg_37]; exact hP
          have hD : va_D A [(h0, .inr (12, zO a0 b0 c0)), zVi (a0 2) k1 5 f1, zVi (a0 17) k2 2 f2, zVi (a0 12) k3 2 f3, zVi (a0 27) k4 28 f4, zVi (a0 25) k5 28 f5, zVi (a0 37) k6 14 g_37] := by rw [eg_37]; exact hD
          refine lv_iinc (v := (s_31.1 + 1)) (lv' := [(4, .int (s_31.1 + 1)), (3, .int (f6 p1.toNatClampNeg)), (0, .ref h0), (1, .int p1), (2, .int p2)]) hx hb dX12_choose_97 hl (k := 0) rfl rfl (of_decide_eq_true rfl) rfl (fun ls hl => ?_)
          refine lv_goto (tgt := 52) hx hb dX12_choose_100 (of_decide_eq_true rfl) ?_
          exact ih_31 ((s_31.1 + 1), g_37) H locs ls hfn hP hD hS (lv_sub hl [0, 1, 2, 3, 4] rfl)
        have hfn := (if_pos c_35).symm.trans hfn
        refine lv_iload_n hx hb dX12_choose_85 rfl (lv_at hl 4 rfl) ?_
        refine lv_goto (tgt := 96) hx hb dX12_choose_86 (of_decide_eq_true rfl) ?_
        obtain ⟨h_38, hfn⟩ := zg_s hfn
        refine va_iast hx hb hK hP hD hS 6 5 rfl rfl h_38 dX12_choose_96 (fun H locs hP hD hS => ?_)
        have hP : va_P (dC, dI) vwCl [(h0, .inr (12, zO a0 b0 c0)), zVi (a0 2) k1 5 f1, zVi (a0 17) k2 2 f2, zVi (a0 12) k3 2 f3, zVi (a0 27) k4 28 f4, zVi (a0 25) k5 28 f5, zVi (a0 37) k6 14 (upd s_31.2 s_31.1.toNatClampNeg p2)] H := hP
        have hD := zDW hD hP rfl
        refine lv_iinc (v := (s_31.1 + 1)) (lv' := [(4, .int (s_31.1 + 1)), (3, .int (f6 p1.toNatClampNeg)), (0, .ref h0), (1, .int p1), (2, .int p2)]) hx hb dX12_choose_97 hl (k := 0) rfl rfl (of_decide_eq_true rfl) rfl (fun ls hl => ?_)
        refine lv_goto (tgt := 52) hx hb dX12_choose_100 (of_decide_eq_true rfl) ?_
        exact ih_31 ((s_31.1 + 1), (upd s_31.2 s_31.1.toNatClampNeg p2)) H locs ls hfn hP hD hS (lv_sub hl [0, 1, 2, 3, 4] rfl)
    exact lp_31 _ (0, f6) H locs ls hfn hP hD hS (lv_sub hl [0, 1, 2, 3, 4] rfl)
  have hfn := (if_pos c_29).symm.trans hfn
  refine lv_aload_n hx hb dX12_choose_36 rfl (lv_at hl 0 rfl) ?_
  refine lv_iconst (v := 2) hx hb dX12_choose_37 zci_2 ?_
  obtain ⟨o_39, hqo_39, hfn⟩ := zb_s hfn
  refine zcVi (ci := 12) (rest := []) (pc' := 41) (ws' := [(h0, .inr (12, zO a0 b0 c0)), zVi (a0 2) k1 5 o_39.2, zVi (a0 17) k2 2 f2, zVi (a0 12) k3 2 f3, zVi (a0 27) k4 28 f4, zVi (a0 25) k5 28 f5, zVi (a0 37) k6 14 f6]) hP hK hD hS hA ⟨hx, hb, hml, hown, hts⟩ (zf_X12_refuses l dC dI h0 2 a0 b0 c0 k1 f1 o_39 hqo_39 H.size) (cwV 1 hts gX12_choose_X12_refuses rfl rfl rfl zhd_X12_refuses ⟨Nat.le_of_ble_eq_true rfl, Nat.le_of_ble_eq_true rfl⟩) [0, 1] rfl (of_decide_eq_true rfl) [0] rfl rfl rfl rfl hl.1 rfl (Nat.le_of_ble_eq_true rfl) dX12_choose_38 ⟨Nat.le_of_ble_eq_true rfl, Nat.le_of_ble_eq_true rfl⟩ [some 0, some 1] (of_decide_eq_true rfl) (of_decide_eq_true rfl) rfl rfl rfl (fun H locs hP hD hS => ?_)
  have ho := Option.some.inj hfn
  subst ho
  exact zri hx hb hr hK hP hD hS hQ rfl hlocks dX12_choose_41
theorem zn_X12_isThere_X12 : ∀ w ∈ wsX120, w ∈ wsX12_isThere := fun _ h => List.mem_cons_of_mem _ (List.mem_append_right _ h)
theorem zw_X12_isThere_1189 : Cond.fieldLink RX12 128 "ShortEnoughModel" "hasHand" "Z" ∈ wsX12_isThere := List.mem_of_getElem? (i := 1) (by decide +kernel)
theorem zw_X12_isThere_1190 : Cond.fieldLink RX12 62 "ShortEnoughModel" "numbers" "[I" ∈ wsX12_isThere := List.mem_of_getElem? (i := 2) (by decide +kernel)
set_option maxHeartbeats 4000000 in
set_option maxRecDepth 100000 in
theorem zf_X12_isThere (l : Launch) (dC : Nat → ClassId) (dI : Nat → Nat → Nat) (h0 : Nat) (a0 : Nat → Nat) (b0 : Nat → Int32) (c0 : Nat → Int64) (k1 : Nat) (f1 : Nat → Int32) (o : Int32) (hfn : fn_X12_isThere (b0 38) f1 = some o) (sz : Nat) : zMi l yX12_isThere wsX12_isThere ({ frames := 0, cells := 0, slots := 0, locals := 0 }) (dC, dI) vwCl [.ref h0] [(h0, .inr (12, zO a0 b0 c0)), zVi (a0 17) k1 2 f1] [(k1, .int)] (fun r _ => r = o ∧ narrow .boolean (.int o) = .int o) [(h0, .inr (12, zO a0 b0 c0)), zVi (a0 17) k1 2 f1] [(k1, .int)] sz := by
  refine zgoi (cc := cX12_isThere) (maxL := 1) (ret := (some .boolean)) (C0 := RX12) (lv0 := [(0, .ref h0)]) zpl_X12 rfl rfl rfl (Nat.le_of_ble_eq_true rfl) ?_
  intro p e s m below meth c A ls Q hx hb hr hts hown hlocks hml hP hK hD hA hS hl hQ
  unfold fn_X12_isThere at hfn
  refine lv_aload_n hx hb dX12_isThere_0 rfl (lv_at hl 0 rfl) ?_
  refine va_get (D := (dC, dI)) (ci := 12) (v := .int (b0 38)) (C := RX12) (T := TX12) (N := 67) hx hb hts zn_X12_isThere_X12 hown hK hP 0 rfl rfl 38 (of_decide_eq_true rfl) (hts (.fieldLink RX12 128 "ShortEnoughModel" "hasHand" "Z") zw_X12_isThere_1189) (fun _ h9 => h9) rfl dX12_isThere_1 ?_
  refine lv_if_eq (tgt := 20) hx hb dX12_isThere_4 (of_decide_eq_true rfl) (fun c_1 => ?_) (fun c_1 => ?_)
  · have hfn := (if_pos c_1).symm.trans hfn
    refine lv_iconst (v := 0) hx hb dX12_isThere_20 zci_0 ?_
    have ho := Option.some.inj hfn
    subst ho
    exact zrz hx hb hr rfl hK hP hD hS hQ ⟨rfl, zB0⟩ hlocks dX12_isThere_21
  have hfn := (if_neg c_1).symm.trans hfn
  refine lv_aload_n hx hb dX12_isThere_7 rfl (lv_at hl 0 rfl) ?_
  refine va_get (D := (dC, dI)) (ci := 12) (v := .ref (a0 17)) (C := RX12) (T := TX12) (N := 67) hx hb hts zn_X12_isThere_X12 hown hK hP 0 rfl rfl 17 (of_decide_eq_true rfl) (hts (.fieldLink RX12 62 "ShortEnoughModel" "numbers" "[I") zw_X12_isThere_1190) (fun _ h9 => h9) rfl dX12_isThere_8 ?_
  refine lv_iconst (v := 0) hx hb dX12_isThere_11 zci_0 ?_
  refine va_iald hx hb hK hP 1 0 rfl rfl (zv_in (by decide +kernel)) dX12_isThere_12 ?_
  refine lv_if_le (tgt := 20) hx hb dX12_isThere_13 (of_decide_eq_true rfl) (fun c_2 => ?_) (fun c_2 => ?_)
  · have hfn := (if_pos c_2).symm.trans hfn
    refine lv_iconst (v := 0) hx hb dX12_isThere_20 zci_0 ?_
    have ho := Option.some.inj hfn
    subst ho
    exact zrz hx hb hr rfl hK hP hD hS hQ ⟨rfl, zB0⟩ hlocks dX12_isThere_21
  have hfn := (if_neg c_2).symm.trans hfn
  refine lv_iconst (v := 1) hx hb dX12_isThere_16 zci_1 ?_
  refine lv_goto (tgt := 21) hx hb dX12_isThere_17 (of_decide_eq_true rfl) ?_
  have ho := Option.some.inj hfn
  subst ho
  exact zrz hx hb hr rfl hK hP hD hS hQ ⟨rfl, zB1⟩ hlocks dX12_isThere_21

set_option maxHeartbeats 4000000 in
set_option maxRecDepth 100000 in
theorem zf_X12_cost (l : Launch) (dC : Nat → ClassId) (dI : Nat → Nat → Nat) (h0 : Nat) (a0 : Nat → Nat) (b0 : Nat → Int32) (c0 : Nat → Int64) (k1 : Nat) (f1 : Nat → Int32) (k2 : Nat) (f2 : Nat → Int32) (k3 : Nat) (f3 : Nat → Int32) (k4 : Nat) (f4 : Nat → Int32) (k5 : Nat) (f5 : Nat → Int32) (k6 : Nat) (f6 : Nat → Int32) (k7 : Nat) (f7 : Nat → Int32) (o : Int32 × (Nat → Int32)) (hfn : fn_X12_cost (b0 38) f1 f2 f3 f4 f5 f6 f7 = some o) (sz : Nat) : zMi l yX12_cost wsX12_cost ({ frames := 3, cells := 0, slots := 0, locals := 66 }) (dC, dI) vwCl [.ref h0] [(h0, .inr (12, zO a0 b0 c0)), zVi (a0 17) k1 2 f1, zVi (a0 37) k2 14 f2, zVi (a0 39) k3 14 f3, zVi (a0 24) k4 2 f4, zVi (a0 20) k5 28 f5, zVi (a0 21) k6 28 f6, zVi (a0 16) k7 8 f7] [(k1, .int), (k2, .int), (k3, .int), (k4, .int), (k5, .int), (k6, .int), (k7, .int)] (fun r _ => r = o.1) [(h0, .inr (12, zO a0 b0 c0)), zVi (a0 17) k1 2 f1, zVi (a0 37) k2 14 f2, zVi (a0 39) k3 14 o.2, zVi (a0 24) k4 2 f4, zVi (a0 20) k5 28 f5, zVi (a0 21) k6 28 f6, zVi (a0 16) k7 8 f7] [(k1, .int), (k2, .int), (k3, .int), (k4, .int), (k5, .int), (k6, .int), (k7, .int)] sz := by
  refine zgoi (cc := cX12_cost) (maxL := 1) (ret := (some .int)) (C0 := RX12) (lv0 := [(0, .ref h0)]) zpl_X12 rfl rfl rfl (Nat.le_of_ble_eq_true rfl) ?_
  intro p e s m below meth c A ls Q hx hb hr hts hown hlocks hml hP hK hD hA hS hl hQ
  unfold fn_X12_cost at hfn
  refine lv_aload_n hx hb dX12_cost_0 rfl (lv_at hl 0 rfl) ?_
  obtain ⟨o_1, hqo_1, hfn⟩ := zb_s hfn
  refine zcVb (ci := 12) (rest := []) (pc' := 4) (ws' := [(h0, .inr (12, zO a0 b0 c0)), zVi (a0 17) k1 2 f1, zVi (a0 37) k2 14 f2, zVi (a0 39) k3 14 f3, zVi (a0 24) k4 2 f4, zVi (a0 20) k5 28 f5, zVi (a0 21) k6 28 f6, zVi (a0 16) k7 8 f7]) hP hK hD hS hA ⟨hx, hb, hml, hown, hts⟩ (zf_X12_isThere l dC dI h0 a0 b0 c0 k1 f1 o_1 hqo_1 s.heap.size) (cwV 0 hts gX12_cost_X12_isThere rfl rfl rfl zhd_X12_isThere ⟨Nat.le_of_ble_eq_true rfl, Nat.le_of_ble_eq_true rfl⟩) [0, 1] rfl (of_decide_eq_true rfl) [0] rfl rfl rfl rfl hl.1 rfl (Nat.le_of_ble_eq_true rfl) dX12_cost_1 ⟨Nat.le_of_ble_eq_true rfl, Nat.le_of_ble_eq_true rfl⟩ [some 0, some 1] (of_decide_eq_true rfl) (of_decide_eq_true rfl) rfl rfl rfl (fun H locs hw_4n hP hD hS => ?_)
  refine lv_if_ne (tgt := 9) hx hb dX12_cost_4 (of_decide_eq_true rfl) (fun c_5 => ?_) (fun c_5 => ?_)
  · have hfn := (if_neg c_5).symm.trans hfn
    refine lv_aload_n hx hb dX12_cost_9 rfl (lv_at hl 0 rfl) ?_
    obtain ⟨o_6, hqo_6, hfn⟩ := zb_s hfn
    refine zcVv (ci := 12) (rest := []) (pc' := 13) (ws' := [(h0, .inr (12, zO a0 b0 c0)), zVi (a0 17) k1 2 f1, zVi (a0 37) k2 14 f2, zVi (a0 39) k3 14 o_6, zVi (a0 24) k4 2 f4, zVi (a0 20) k5 28 f5, zVi (a0 21) k6 28 f6, zVi (a0 16) k7 8 f7]) hP hK hD hS hA ⟨hx, hb, hml, hown, hts⟩ (zf_X12_triesHand l dC dI h0 a0 b0 c0 k1 f1 k2 f2 k3 f3 o_6 hqo_6 H.size) (cwV 0 hts gX12_cost_X12_triesHand rfl rfl rfl zhd_X12_triesHand ⟨Nat.le_of_ble_eq_true rfl, Nat.le_of_ble_eq_true rfl⟩) [0, 1, 2, 3] rfl (of_decide_eq_true rfl) [0, 1, 2] rfl rfl rfl rfl hl.1 rfl (Nat.le_of_ble_eq_true rfl) dX12_cost_10 ⟨Nat.le_of_ble_eq_true rfl, Nat.le_of_ble_eq_true rfl⟩ [some 0, some 1, some 2, some 3] (of_decide_eq_true rfl) (of_decide_eq_true rfl) rfl rfl rfl (fun H locs hP hD hS => ?_)
    refine lv_aload_n hx hb dX12_cost_13 rfl (lv_at hl 0 rfl) ?_
    obtain ⟨o_10, hqo_10, hfn⟩ := zb_s hfn
    refine zcVi (ci := 12) (rest := []) (pc' := 17) (ws' := [(h0, .inr (12, zO a0 b0 c0)), zVi (a0 17) k1 2 f1, zVi (a0 37) k2 14 f2, zVi (a0 39) k3 14 o_6, zVi (a0 24) k4 2 f4, zVi (a0 20) k5 28 f5, zVi (a0 21) k6 28 f6, zVi (a0 16) k7 8 f7]) hP hK hD hS hA ⟨hx, hb, hml, hown, hts⟩ (zf_X12_costTried l dC dI h0 a0 b0 c0 k4 f4 k1 f1 k5 f5 k3 o_6 k6 f6 k7 f7 o_10 hqo_10 H.size) (cwV 0 hts gX12_cost_X12_costTried rfl rfl rfl zhd_X12_costTried ⟨Nat.le_of_ble_eq_true rfl, Nat.le_of_ble_eq_true rfl⟩) [0, 4, 1, 5, 3, 6, 7] rfl (of_decide_eq_true rfl) [3, 0, 4, 2, 5, 6] rfl rfl rfl rfl hl.1 rfl (Nat.le_of_ble_eq_true rfl) dX12_cost_14 ⟨Nat.le_of_ble_eq_true rfl, Nat.le_of_ble_eq_true rfl⟩ [some 0, some 2, none, some 4, some 1, some 3, some 5, some 6] (of_decide_eq_true rfl) (of_decide_eq_true rfl) rfl rfl rfl (fun H locs hP hD hS => ?_)
    have ho := Option.some.inj hfn
    subst ho
    exact zri hx hb hr hK hP hD hS hQ rfl hlocks dX12_cost_17
  have hfn := (if_pos c_5).symm.trans hfn
  refine lv_iconst (v := (-1)) hx hb dX12_cost_7 zci_m1 ?_
  have ho := Option.some.inj hfn
  subst ho
  exact zri hx hb hr hK hP hD hS hQ rfl hlocks dX12_cost_8

set_option maxHeartbeats 4000000 in
set_option maxRecDepth 100000 in
theorem zf_X12_casts (l : Launch) (dC : Nat → ClassId) (dI : Nat → Nat → Nat) (h0 : Nat) (a0 : Nat → Nat) (b0 : Nat → Int32) (c0 : Nat → Int64) (k1 : Nat) (f1 : Nat → Int32) (k2 : Nat) (f2 : Nat → Int32) (k3 : Nat) (f3 : Nat → Int32) (k4 : Nat) (f4 : Nat → Int32) (k5 : Nat) (f5 : Nat → Int32) (o : Int32 × (Nat → Int32)) (hfn : fn_X12_casts (b0 38) f1 f2 f3 f4 f5 = some o) (sz : Nat) : zMi l yX12_casts wsX12_casts ({ frames := 2, cells := 0, slots := 0, locals := 44 }) (dC, dI) vwCl [.ref h0] [(h0, .inr (12, zO a0 b0 c0)), zVi (a0 17) k1 2 f1, zVi (a0 37) k2 14 f2, zVi (a0 39) k3 14 f3, zVi (a0 20) k4 28 f4, zVi (a0 21) k5 28 f5] [(k1, .int), (k2, .int), (k3, .int), (k4, .int), (k5, .int)] (fun r _ => r = o.1) [(h0, .inr (12, zO a0 b0 c0)), zVi (a0 17) k1 2 f1, zVi (a0 37) k2 14 f2, zVi (a0 39) k3 14 o.2, zVi (a0 20) k4 28 f4, zVi (a0 21) k5 28 f5] [(k1, .int), (k2, .int), (k3, .int), (k4, .int), (k5, .int)] sz := by
  refine zgoi (cc := cX12_casts) (maxL := 1) (ret := (some .int)) (C0 := RX12) (lv0 := [(0, .ref h0)]) zpl_X12 rfl rfl rfl (Nat.le_of_ble_eq_true rfl) ?_
  intro p e s m below meth c A ls Q hx hb hr hts hown hlocks hml hP hK hD hA hS hl hQ
  unfold fn_X12_casts at hfn
  refine lv_aload_n hx hb dX12_casts_0 rfl (lv_at hl 0 rfl) ?_
  obtain ⟨o_1, hqo_1, hfn⟩ := zb_s hfn
  refine zcVb (ci := 12) (rest := []) (pc' := 4) (ws' := [(h0, .inr (12, zO a0 b0 c0)), zVi (a0 17) k1 2 f1, zVi (a0 37) k2 14 f2, zVi (a0 39) k3 14 f3, zVi (a0 20) k4 28 f4, zVi (a0 21) k5 28 f5]) hP hK hD hS hA ⟨hx, hb, hml, hown, hts⟩ (zf_X12_isThere l dC dI h0 a0 b0 c0 k1 f1 o_1 hqo_1 s.heap.size) (cwV 0 hts gX12_casts_X12_isThere rfl rfl rfl zhd_X12_isThere ⟨Nat.le_of_ble_eq_true rfl, Nat.le_of_ble_eq_true rfl⟩) [0, 1] rfl (of_decide_eq_true rfl) [0] rfl rfl rfl rfl hl.1 rfl (Nat.le_of_ble_eq_true rfl) dX12_casts_1 ⟨Nat.le_of_ble_eq_true rfl, Nat.le_of_ble_eq_true rfl⟩ [some 0, some 1] (of_decide_eq_true rfl) (of_decide_eq_true rfl) rfl rfl rfl (fun H locs hw_4n hP hD hS => ?_)
  refine lv_if_ne (tgt := 9) hx hb dX12_casts_4 (of_decide_eq_true rfl) (fun c_5 => ?_) (fun c_5 => ?_)
  · have hfn := (if_neg c_5).symm.trans hfn
    refine lv_aload_n hx hb dX12_casts_9 rfl (lv_at hl 0 rfl) ?_
    obtain ⟨o_6, hqo_6, hfn⟩ := zb_s hfn
    refine zcVv (ci := 12) (rest := []) (pc' := 13) (ws' := [(h0, .inr (12, zO a0 b0 c0)), zVi (a0 17) k1 2 f1, zVi (a0 37) k2 14 f2, zVi (a0 39) k3 14 o_6, zVi (a0 20) k4 28 f4, zVi (a0 21) k5 28 f5]) hP hK hD hS hA ⟨hx, hb, hml, hown, hts⟩ (zf_X12_triesHand l dC dI h0 a0 b0 c0 k1 f1 k2 f2 k3 f3 o_6 hqo_6 H.size) (cwV 0 hts gX12_casts_X12_triesHand rfl rfl rfl zhd_X12_triesHand ⟨Nat.le_of_ble_eq_true rfl, Nat.le_of_ble_eq_true rfl⟩) [0, 1, 2, 3] rfl (of_decide_eq_true rfl) [0, 1, 2] rfl rfl rfl rfl hl.1 rfl (Nat.le_of_ble_eq_true rfl) dX12_casts_10 ⟨Nat.le_of_ble_eq_true rfl, Nat.le_of_ble_eq_true rfl⟩ [some 0, some 1, some 2, some 3] (of_decide_eq_true rfl) (of_decide_eq_true rfl) rfl rfl rfl (fun H locs hP hD hS => ?_)
    refine lv_aload_n hx hb dX12_casts_13 rfl (lv_at hl 0 rfl) ?_
    obtain ⟨o_10, hqo_10, hfn⟩ := zb_s hfn
    refine zcVi (ci := 12) (rest := []) (pc' := 17) (ws' := [(h0, .inr (12, zO a0 b0 c0)), zVi (a0 17) k1 2 f1, zVi (a0 37) k2 14 f2, zVi (a0 39) k3 14 o_6, zVi (a0 20) k4 28 f4, zVi (a0 21) k5 28 f5]) hP hK hD hS hA ⟨hx, hb, hml, hown, hts⟩ (zf_X12_castsTried l dC dI h0 a0 b0 c0 k1 f1 k4 f4 k3 o_6 k5 f5 o_10 hqo_10 H.size) (cwV 0 hts gX12_casts_X12_castsTried rfl rfl rfl zhd_X12_castsTried ⟨Nat.le_of_ble_eq_true rfl, Nat.le_of_ble_eq_true rfl⟩) [0, 1, 4, 3, 5] rfl (of_decide_eq_true rfl) [0, 3, 2, 4] rfl rfl rfl rfl hl.1 rfl (Nat.le_of_ble_eq_true rfl) dX12_casts_14 ⟨Nat.le_of_ble_eq_true rfl, Nat.le_of_ble_eq_true rfl⟩ [some 0, some 1, none, some 3, some 2, some 4] (of_decide_eq_true rfl) (of_decide_eq_true rfl) rfl rfl rfl (fun H locs hP hD hS => ?_)
    have ho := Option.some.inj hfn
    subst ho
    exact zri hx hb hr hK hP hD hS hQ rfl hlocks dX12_casts_17
  have hfn := (if_pos c_5).symm.trans hfn
  refine lv_iconst (v := (-1)) hx hb dX12_casts_7 zci_m1 ?_
  have ho := Option.some.inj hfn
  subst ho
  exact zri hx hb hr hK hP hD hS hQ rfl hlocks dX12_casts_8
theorem zn_X12_fails_X12 : ∀ w ∈ wsX120, w ∈ wsX12_fails := fun _ h => List.mem_cons_of_mem _ (List.mem_append_right _ h)
theorem zw_X12_fails_1192 : Cond.fieldLink RX12 138 "ShortEnoughModel" "failsAt" "I" ∈ wsX12_fails := List.mem_of_getElem? (i := 1) (by decide +kernel)
set_option maxHeartbeats 4000000 in
set_option maxRecDepth 100000 in
theorem zf_X12_fails (l : Launch) (dC : Nat → ClassId) (dI : Nat → Nat → Nat) (h0 : Nat) (a0 : Nat → Nat) (b0 : Nat → Int32) (c0 : Nat → Int64) (k1 : Nat) (f1 : Nat → Int32) (k2 : Nat) (f2 : Nat → Int32) (k3 : Nat) (f3 : Nat → Int32) (k4 : Nat) (f4 : Nat → Int32) (k5 : Nat) (f5 : Nat → Int32) (k6 : Nat) (f6 : Nat → Int32) (k7 : Nat) (f7 : Nat → Int64) (k8 : Nat) (f8 : Nat → Int64) (k9 : Nat) (f9 : Nat → Int64) (k10 : Nat) (f10 : Nat → Int64) (k11 : Nat) (f11 : Nat → Int32) (k12 : Nat) (f12 : Nat → Int64) (k13 : Nat) (f13 : Nat → Int32) (k14 : Nat) (f14 : Nat → Int32) (o : Int32 × Int32 × Int32 × Int32 × (Nat → Int32) × (Nat → Int64) × (Nat → Int64) × (Nat → Int64)) (hfn : fn_X12_fails (b0 33) (c0 34) (b0 38) (b0 41) (b0 42) f1 f2 f3 f4 f5 f6 f7 f8 f9 f10 f11 f12 f13 f14 = some o) (sz : Nat) : zMi l yX12_fails wsX12_fails ({ frames := 6, cells := 0, slots := 0, locals := 154 }) (dC, dI) vwCl [.ref h0] [(h0, .inr (12, zO a0 b0 c0)), zVi (a0 17) k1 2 f1, zVi (a0 37) k2 14 f2, zVi (a0 39) k3 14 f3, zVi (a0 19) k4 28 f4, zVi (a0 20) k5 28 f5, zVi (a0 21) k6 28 f6, zVl (a0 31) k7 14 f7, zVl (a0 22) k8 28 f8, zVl (a0 23) k9 28 f9, zVl (a0 32) k10 14 f10, zVi (a0 14) k11 8 f11, zVl (a0 40) k12 14 f12, zVi (a0 15) k13 8 f13, zVi (a0 26) k14 28 f14] [(k1, .int), (k2, .int), (k3, .int), (k4, .int), (k5, .int), (k6, .int), (k7, .long), (k8, .long), (k9, .long), (k10, .long), (k11, .int), (k12, .long), (k13, .int), (k14, .int)] (fun r _ => r = o.1) [(h0, .inr (12, zO a0 (zI (zI (zI b0 33 o.2.1) 41 o.2.2.1) 42 o.2.2.2.1) c0)), zVi (a0 17) k1 2 f1, zVi (a0 37) k2 14 f2, zVi (a0 39) k3 14 o.2.2.2.2.1, zVi (a0 19) k4 28 f4, zVi (a0 20) k5 28 f5, zVi (a0 21) k6 28 f6, zVl (a0 31) k7 14 o.2.2.2.2.2.1, zVl (a0 22) k8 28 f8, zVl (a0 23) k9 28 f9, zVl (a0 32) k10 14 o.2.2.2.2.2.2.1, zVi (a0 14) k11 8 f11, zVl (a0 40) k12 14 o.2.2.2.2.2.2.2, zVi (a0 15) k13 8 f13, zVi (a0 26) k14 28 f14] [(k1, .int), (k2, .int), (k3, .int), (k4, .int), (k5, .int), (k6, .int), (k7, .long), (k8, .long), (k9, .long), (k10, .long), (k11, .int), (k12, .long), (k13, .int), (k14, .int)] sz := by
  refine zgoi (cc := cX12_fails) (maxL := 1) (ret := (some .int)) (C0 := RX12) (lv0 := [(0, .ref h0)]) zpl_X12 rfl rfl rfl (Nat.le_of_ble_eq_true rfl) ?_
  intro p e s m below meth c A ls Q hx hb hr hts hown hlocks hml hP hK hD hA hS hl hQ
  unfold fn_X12_fails at hfn
  refine lv_aload_n hx hb dX12_fails_0 rfl (lv_at hl 0 rfl) ?_
  obtain ⟨o_1, hqo_1, hfn⟩ := zb_s hfn
  refine zcVb (ci := 12) (rest := []) (pc' := 4) (ws' := [(h0, .inr (12, zO a0 b0 c0)), zVi (a0 17) k1 2 f1, zVi (a0 37) k2 14 f2, zVi (a0 39) k3 14 f3, zVi (a0 19) k4 28 f4, zVi (a0 20) k5 28 f5, zVi (a0 21) k6 28 f6, zVl (a0 31) k7 14 f7, zVl (a0 22) k8 28 f8, zVl (a0 23) k9 28 f9, zVl (a0 32) k10 14 f10, zVi (a0 14) k11 8 f11, zVl (a0 40) k12 14 f12, zVi (a0 15) k13 8 f13, zVi (a0 26) k14 28 f14]) hP hK hD hS hA ⟨hx, hb, hml, hown, hts⟩ (zf_X12_isThere l dC dI h0 a0 b0 c0 k1 f1 o_1 hqo_1 s.heap.size) (cwV 0 hts gX12_fails_X12_isThere rfl rfl rfl zhd_X12_isThere ⟨Nat.le_of_ble_eq_true rfl, Nat.le_of_ble_eq_true rfl⟩) [0, 1] rfl (of_decide_eq_true rfl) [0] rfl rfl rfl rfl hl.1 rfl (Nat.le_of_ble_eq_true rfl) dX12_fails_1 ⟨Nat.le_of_ble_eq_true rfl, Nat.le_of_ble_eq_true rfl⟩ [some 0, some 1] (of_decide_eq_true rfl) (of_decide_eq_true rfl) rfl rfl rfl (fun H locs hw_4n hP hD hS => ?_)
  refine lv_if_ne (tgt := 9) hx hb dX12_fails_4 (of_decide_eq_true rfl) (fun c_5 => ?_) (fun c_5 => ?_)
  · have hfn := (if_neg c_5).symm.trans hfn
    refine lv_aload_n hx hb dX12_fails_9 rfl (lv_at hl 0 rfl) ?_
    obtain ⟨o_6, hqo_6, hfn⟩ := zb_s hfn
    refine zcVb (ci := 12) (rest := []) (pc' := 13) (ws' := [(h0, .inr (12, zO a0 (zI (zI (zI b0 33 o_6.2.1) 41 o_6.2.2.1) 42 o_6.2.2.2.1) c0)), zVi (a0 17) k1 2 f1, zVi (a0 37) k2 14 f2, zVi (a0 39) k3 14 o_6.2.2.2.2.1, zVi (a0 19) k4 28 f4, zVi (a0 20) k5 28 f5, zVi (a0 21) k6 28 f6, zVl (a0 31) k7 14 o_6.2.2.2.2.2.1, zVl (a0 22) k8 28 f8, zVl (a0 23) k9 28 f9, zVl (a0 32) k10 14 o_6.2.2.2.2.2.2.1, zVi (a0 14) k11 8 f11, zVl (a0 40) k12 14 o_6.2.2.2.2.2.2.2, zVi (a0 15) k13 8 f13, zVi (a0 26) k14 28 f14]) hP hK hD hS hA ⟨hx, hb, hml, hown, hts⟩ (zf_X12_handPasses l dC dI h0 a0 b0 c0 k1 f1 k2 f2 k3 f3 k4 f4 k5 f5 k6 f6 k7 f7 k8 f8 k9 f9 k10 f10 k11 f11 k12 f12 k13 f13 k14 f14 o_6 hqo_6 H.size) (cwV 0 hts gX12_fails_X12_handPasses rfl rfl rfl zhd_X12_handPasses ⟨Nat.le_of_ble_eq_true rfl, Nat.le_of_ble_eq_true rfl⟩) [0, 1, 2, 3, 4, 5, 6, 7, 8, 9, 10, 11, 12, 13, 14] rfl (of_decide_eq_true rfl) [0, 1, 2, 3, 4, 5, 6, 7, 8, 9, 10, 11, 12, 13] rfl rfl rfl rfl hl.1 rfl (Nat.le_of_ble_eq_true rfl) dX12_fails_10 ⟨Nat.le_of_ble_eq_true rfl, Nat.le_of_ble_eq_true rfl⟩ [some 0, some 1, some 2, some 3, some 4, some 5, some 6, some 7, some 8, some 9, some 10, some 11, some 12, some 13, some 14] (of_decide_eq_true rfl) (of_decide_eq_true rfl) rfl rfl rfl (fun H locs hw_9n hP hD hS => ?_)
    refine lv_if_eq (tgt := 21) hx hb dX12_fails_13 (of_decide_eq_true rfl) (fun c_10 => ?_) (fun c_10 => ?_)
    · have hfn := (if_pos c_10).symm.trans hfn
      refine lv_aload_n hx hb dX12_fails_21 rfl (lv_at hl 0 rfl) ?_
      refine va_get (D := (dC, dI)) (ci := 12) (v := .int o_6.2.2.1) (C := RX12) (T := TX12) (N := 67) hx hb hts zn_X12_fails_X12 hown hK hP 0 rfl rfl 41 (of_decide_eq_true rfl) (hts (.fieldLink RX12 138 "ShortEnoughModel" "failsAt" "I") zw_X12_fails_1192) (fun _ h9 => h9) rfl dX12_fails_22 ?_
      have ho := Option.some.inj hfn
      subst ho
      exact zri hx hb hr hK hP hD hS hQ rfl hlocks dX12_fails_25
    have hfn := (if_neg c_10).symm.trans hfn
    refine lv_bipush (v := (-2)) hx hb dX12_fails_16 zcb_m2 ?_
    refine lv_goto (tgt := 25) hx hb dX12_fails_18 (of_decide_eq_true rfl) ?_
    have ho := Option.some.inj hfn
    subst ho
    exact zri hx hb hr hK hP hD hS hQ rfl hlocks dX12_fails_25
  have hfn := (if_pos c_5).symm.trans hfn
  refine lv_iconst (v := (-1)) hx hb dX12_fails_7 zci_m1 ?_
  have ho := Option.some.inj hfn
  subst ho
  exact zri hx hb hr hK hP hD hS hQ rfl hlocks dX12_fails_8
theorem zn_X12_why_X12 : ∀ w ∈ wsX120, w ∈ wsX12_why := fun _ h => List.mem_cons_of_mem _ (List.mem_append_right _ h)
theorem zw_X12_why_1194 : Cond.fieldLink RX12 141 "ShortEnoughModel" "failsWhy" "I" ∈ wsX12_why := List.mem_of_getElem? (i := 1) (by decide +kernel)
set_option maxHeartbeats 4000000 in
set_option maxRecDepth 100000 in
theorem zf_X12_why (l : Launch) (dC : Nat → ClassId) (dI : Nat → Nat → Nat) (h0 : Nat) (a0 : Nat → Nat) (b0 : Nat → Int32) (c0 : Nat → Int64) (k1 : Nat) (f1 : Nat → Int32) (k2 : Nat) (f2 : Nat → Int32) (k3 : Nat) (f3 : Nat → Int32) (k4 : Nat) (f4 : Nat → Int32) (k5 : Nat) (f5 : Nat → Int32) (k6 : Nat) (f6 : Nat → Int32) (k7 : Nat) (f7 : Nat → Int64) (k8 : Nat) (f8 : Nat → Int64) (k9 : Nat) (f9 : Nat → Int64) (k10 : Nat) (f10 : Nat → Int64) (k11 : Nat) (f11 : Nat → Int32) (k12 : Nat) (f12 : Nat → Int64) (k13 : Nat) (f13 : Nat → Int32) (k14 : Nat) (f14 : Nat → Int32) (o : Int32 × Int32 × Int32 × Int32 × (Nat → Int32) × (Nat → Int64) × (Nat → Int64) × (Nat → Int64)) (hfn : fn_X12_why (b0 33) (c0 34) (b0 38) (b0 41) (b0 42) f1 f2 f3 f4 f5 f6 f7 f8 f9 f10 f11 f12 f13 f14 = some o) (sz : Nat) : zMi l yX12_why wsX12_why ({ frames := 6, cells := 0, slots := 0, locals := 154 }) (dC, dI) vwCl [.ref h0] [(h0, .inr (12, zO a0 b0 c0)), zVi (a0 17) k1 2 f1, zVi (a0 37) k2 14 f2, zVi (a0 39) k3 14 f3, zVi (a0 19) k4 28 f4, zVi (a0 20) k5 28 f5, zVi (a0 21) k6 28 f6, zVl (a0 31) k7 14 f7, zVl (a0 22) k8 28 f8, zVl (a0 23) k9 28 f9, zVl (a0 32) k10 14 f10, zVi (a0 14) k11 8 f11, zVl (a0 40) k12 14 f12, zVi (a0 15) k13 8 f13, zVi (a0 26) k14 28 f14] [(k1, .int), (k2, .int), (k3, .int), (k4, .int), (k5, .int), (k6, .int), (k7, .long), (k8, .long), (k9, .long), (k10, .long), (k11, .int), (k12, .long), (k13, .int), (k14, .int)] (fun r _ => r = o.1) [(h0, .inr (12, zO a0 (zI (zI (zI b0 33 o.2.1) 41 o.2.2.1) 42 o.2.2.2.1) c0)), zVi (a0 17) k1 2 f1, zVi (a0 37) k2 14 f2, zVi (a0 39) k3 14 o.2.2.2.2.1, zVi (a0 19) k4 28 f4, zVi (a0 20) k5 28 f5, zVi (a0 21) k6 28 f6, zVl (a0 31) k7 14 o.2.2.2.2.2.1, zVl (a0 22) k8 28 f8, zVl (a0 23) k9 28 f9, zVl (a0 32) k10 14 o.2.2.2.2.2.2.1, zVi (a0 14) k11 8 f11, zVl (a0 40) k12 14 o.2.2.2.2.2.2.2, zVi (a0 15) k13 8 f13, zVi (a0 26) k14 28 f14] [(k1, .int), (k2, .int), (k3, .int), (k4, .int), (k5, .int), (k6, .int), (k7, .long), (k8, .long), (k9, .long), (k10, .long), (k11, .int), (k12, .long), (k13, .int), (k14, .int)] sz := by
  refine zgoi (cc := cX12_why) (maxL := 1) (ret := (some .int)) (C0 := RX12) (lv0 := [(0, .ref h0)]) zpl_X12 rfl rfl rfl (Nat.le_of_ble_eq_true rfl) ?_
  intro p e s m below meth c A ls Q hx hb hr hts hown hlocks hml hP hK hD hA hS hl hQ
  unfold fn_X12_why at hfn
  refine lv_aload_n hx hb dX12_why_0 rfl (lv_at hl 0 rfl) ?_
  obtain ⟨o_1, hqo_1, hfn⟩ := zb_s hfn
  refine zcVb (ci := 12) (rest := []) (pc' := 4) (ws' := [(h0, .inr (12, zO a0 b0 c0)), zVi (a0 17) k1 2 f1, zVi (a0 37) k2 14 f2, zVi (a0 39) k3 14 f3, zVi (a0 19) k4 28 f4, zVi (a0 20) k5 28 f5, zVi (a0 21) k6 28 f6, zVl (a0 31) k7 14 f7, zVl (a0 22) k8 28 f8, zVl (a0 23) k9 28 f9, zVl (a0 32) k10 14 f10, zVi (a0 14) k11 8 f11, zVl (a0 40) k12 14 f12, zVi (a0 15) k13 8 f13, zVi (a0 26) k14 28 f14]) hP hK hD hS hA ⟨hx, hb, hml, hown, hts⟩ (zf_X12_isThere l dC dI h0 a0 b0 c0 k1 f1 o_1 hqo_1 s.heap.size) (cwV 0 hts gX12_why_X12_isThere rfl rfl rfl zhd_X12_isThere ⟨Nat.le_of_ble_eq_true rfl, Nat.le_of_ble_eq_true rfl⟩) [0, 1] rfl (of_decide_eq_true rfl) [0] rfl rfl rfl rfl hl.1 rfl (Nat.le_of_ble_eq_true rfl) dX12_why_1 ⟨Nat.le_of_ble_eq_true rfl, Nat.le_of_ble_eq_true rfl⟩ [some 0, some 1] (of_decide_eq_true rfl) (of_decide_eq_true rfl) rfl rfl rfl (fun H locs hw_4n hP hD hS => ?_)
  refine lv_if_ne (tgt := 9) hx hb dX12_why_4 (of_decide_eq_true rfl) (fun c_5 => ?_) (fun c_5 => ?_)
  · have hfn := (if_neg c_5).symm.trans hfn
    refine lv_aload_n hx hb dX12_why_9 rfl (lv_at hl 0 rfl) ?_
    obtain ⟨o_6, hqo_6, hfn⟩ := zb_s hfn
    refine zcVb (ci := 12) (rest := []) (pc' := 13) (ws' := [(h0, .inr (12, zO a0 (zI (zI (zI b0 33 o_6.2.1) 41 o_6.2.2.1) 42 o_6.2.2.2.1) c0)), zVi (a0 17) k1 2 f1, zVi (a0 37) k2 14 f2, zVi (a0 39) k3 14 o_6.2.2.2.2.1, zVi (a0 19) k4 28 f4, zVi (a0 20) k5 28 f5, zVi (a0 21) k6 28 f6, zVl (a0 31) k7 14 o_6.2.2.2.2.2.1, zVl (a0 22) k8 28 f8, zVl (a0 23) k9 28 f9, zVl (a0 32) k10 14 o_6.2.2.2.2.2.2.1, zVi (a0 14) k11 8 f11, zVl (a0 40) k12 14 o_6.2.2.2.2.2.2.2, zVi (a0 15) k13 8 f13, zVi (a0 26) k14 28 f14]) hP hK hD hS hA ⟨hx, hb, hml, hown, hts⟩ (zf_X12_handPasses l dC dI h0 a0 b0 c0 k1 f1 k2 f2 k3 f3 k4 f4 k5 f5 k6 f6 k7 f7 k8 f8 k9 f9 k10 f10 k11 f11 k12 f12 k13 f13 k14 f14 o_6 hqo_6 H.size) (cwV 0 hts gX12_why_X12_handPasses rfl rfl rfl zhd_X12_handPasses ⟨Nat.le_of_ble_eq_true rfl, Nat.le_of_ble_eq_true rfl⟩) [0, 1, 2, 3, 4, 5, 6, 7, 8, 9, 10, 11, 12, 13, 14] rfl (of_decide_eq_true rfl) [0, 1, 2, 3, 4, 5, 6, 7, 8, 9, 10, 11, 12, 13] rfl rfl rfl rfl hl.1 rfl (Nat.le_of_ble_eq_true rfl) dX12_why_10 ⟨Nat.le_of_ble_eq_true rfl, Nat.le_of_ble_eq_true rfl⟩ [some 0, some 1, some 2, some 3, some 4, some 5, some 6, some 7, some 8, some 9, some 10, some 11, some 12, some 13, some 14] (of_decide_eq_true rfl) (of_decide_eq_true rfl) rfl rfl rfl (fun H locs hw_9n hP hD hS => ?_)
    refine lv_if_eq (tgt := 20) hx hb dX12_why_13 (of_decide_eq_true rfl) (fun c_10 => ?_) (fun c_10 => ?_)
    · have hfn := (if_pos c_10).symm.trans hfn
      refine lv_aload_n hx hb dX12_why_20 rfl (lv_at hl 0 rfl) ?_
      refine va_get (D := (dC, dI)) (ci := 12) (v := .int o_6.2.2.2.1) (C := RX12) (T := TX12) (N := 67) hx hb hts zn_X12_why_X12 hown hK hP 0 rfl rfl 42 (of_decide_eq_true rfl) (hts (.fieldLink RX12 141 "ShortEnoughModel" "failsWhy" "I") zw_X12_why_1194) (fun _ h9 => h9) rfl dX12_why_21 ?_
      have ho := Option.some.inj hfn
      subst ho
      exact zri hx hb hr hK hP hD hS hQ rfl hlocks dX12_why_24
    have hfn := (if_neg c_10).symm.trans hfn
    refine lv_iconst (v := 0) hx hb dX12_why_16 zci_0 ?_
    refine lv_goto (tgt := 24) hx hb dX12_why_17 (of_decide_eq_true rfl) ?_
    have ho := Option.some.inj hfn
    subst ho
    exact zri hx hb hr hK hP hD hS hQ rfl hlocks dX12_why_24
  have hfn := (if_pos c_5).symm.trans hfn
  refine lv_iconst (v := (-1)) hx hb dX12_why_7 zci_m1 ?_
  have ho := Option.some.inj hfn
  subst ho
  exact zri hx hb hr hK hP hD hS hQ rfl hlocks dX12_why_8
theorem zw_X12_error_1195 : Cond.constantLong RX12 381 (-1000000000000000) ∈ wsX12_error := List.mem_of_getElem? (i := 1) (by decide +kernel)
theorem zn_X12_error_X12 : ∀ w ∈ wsX120, w ∈ wsX12_error := fun _ h => List.mem_cons_of_mem _ (List.mem_append_right _ h)
theorem zw_X12_error_1197 : Cond.fieldLink RX12 135 "ShortEnoughModel" "error" "[J" ∈ wsX12_error := List.mem_of_getElem? (i := 3) (by decide +kernel)
theorem zw_X12_error_1198 : Cond.fieldLink RX12 138 "ShortEnoughModel" "failsAt" "I" ∈ wsX12_error := List.mem_of_getElem? (i := 2) (by decide +kernel)
set_option maxHeartbeats 4000000 in
set_option maxRecDepth 100000 in
theorem zf_X12_error (l : Launch) (dC : Nat → ClassId) (dI : Nat → Nat → Nat) (h0 : Nat) (p1 : Int32) (a0 : Nat → Nat) (b0 : Nat → Int32) (c0 : Nat → Int64) (k1 : Nat) (f1 : Nat → Int32) (k2 : Nat) (f2 : Nat → Int32) (k3 : Nat) (f3 : Nat → Int32) (k4 : Nat) (f4 : Nat → Int32) (k5 : Nat) (f5 : Nat → Int32) (k6 : Nat) (f6 : Nat → Int32) (k7 : Nat) (f7 : Nat → Int64) (k8 : Nat) (f8 : Nat → Int64) (k9 : Nat) (f9 : Nat → Int64) (k10 : Nat) (f10 : Nat → Int64) (k11 : Nat) (f11 : Nat → Int32) (k12 : Nat) (f12 : Nat → Int64) (k13 : Nat) (f13 : Nat → Int32) (k14 : Nat) (f14 : Nat → Int32) (o : Int64 × Int32 × Int32 × Int32 × (Nat → Int32) × (Nat → Int64) × (Nat → Int64) × (Nat → Int64)) (hfn : fn_X12_error p1 (b0 33) (c0 34) (b0 38) (b0 41) (b0 42) f1 f2 f3 f4 f5 f6 f7 f8 f9 f10 f11 f12 f13 f14 = some o) (sz : Nat) : zMl l yX12_error wsX12_error ({ frames := 6, cells := 0, slots := 0, locals := 154 }) (dC, dI) vwCl [.ref h0, .int p1] [(h0, .inr (12, zO a0 b0 c0)), zVi (a0 17) k1 2 f1, zVi (a0 37) k2 14 f2, zVi (a0 39) k3 14 f3, zVi (a0 19) k4 28 f4, zVi (a0 20) k5 28 f5, zVi (a0 21) k6 28 f6, zVl (a0 31) k7 14 f7, zVl (a0 22) k8 28 f8, zVl (a0 23) k9 28 f9, zVl (a0 32) k10 14 f10, zVi (a0 14) k11 8 f11, zVl (a0 40) k12 14 f12, zVi (a0 15) k13 8 f13, zVi (a0 26) k14 28 f14] [(k1, .int), (k2, .int), (k3, .int), (k4, .int), (k5, .int), (k6, .int), (k7, .long), (k8, .long), (k9, .long), (k10, .long), (k11, .int), (k12, .long), (k13, .int), (k14, .int)] (fun r _ => r = o.1) [(h0, .inr (12, zO a0 (zI (zI (zI b0 33 o.2.1) 41 o.2.2.1) 42 o.2.2.2.1) c0)), zVi (a0 17) k1 2 f1, zVi (a0 37) k2 14 f2, zVi (a0 39) k3 14 o.2.2.2.2.1, zVi (a0 19) k4 28 f4, zVi (a0 20) k5 28 f5, zVi (a0 21) k6 28 f6, zVl (a0 31) k7 14 o.2.2.2.2.2.1, zVl (a0 22) k8 28 f8, zVl (a0 23) k9 28 f9, zVl (a0 32) k10 14 o.2.2.2.2.2.2.1, zVi (a0 14) k11 8 f11, zVl (a0 40) k12 14 o.2.2.2.2.2.2.2, zVi (a0 15) k13 8 f13, zVi (a0 26) k14 28 f14] [(k1, .int), (k2, .int), (k3, .int), (k4, .int), (k5, .int), (k6, .int), (k7, .long), (k8, .long), (k9, .long), (k10, .long), (k11, .int), (k12, .long), (k13, .int), (k14, .int)] sz := by
  refine zgol (cc := cX12_error) (maxL := 3) (ret := (some .long)) (C0 := RX12) (lv0 := [(0, .ref h0), (1, .int p1)]) zpl_X12 rfl rfl rfl (Nat.le_of_ble_eq_true rfl) ?_
  intro p e s m below meth c A ls Q hx hb hr hts hown hlocks hml hP hK hD hA hS hl hQ
  unfold fn_X12_error at hfn
  refine lv_aload_n hx hb dX12_error_0 rfl (lv_at hl 0 rfl) ?_
  obtain ⟨o_1, hqo_1, hfn⟩ := zb_s hfn
  refine zcVb (ci := 12) (rest := []) (pc' := 4) (ws' := [(h0, .inr (12, zO a0 b0 c0)), zVi (a0 17) k1 2 f1, zVi (a0 37) k2 14 f2, zVi (a0 39) k3 14 f3, zVi (a0 19) k4 28 f4, zVi (a0 20) k5 28 f5, zVi (a0 21) k6 28 f6, zVl (a0 31) k7 14 f7, zVl (a0 22) k8 28 f8, zVl (a0 23) k9 28 f9, zVl (a0 32) k10 14 f10, zVi (a0 14) k11 8 f11, zVl (a0 40) k12 14 f12, zVi (a0 15) k13 8 f13, zVi (a0 26) k14 28 f14]) hP hK hD hS hA ⟨hx, hb, hml, hown, hts⟩ (zf_X12_isThere l dC dI h0 a0 b0 c0 k1 f1 o_1 hqo_1 s.heap.size) (cwV 0 hts gX12_error_X12_isThere rfl rfl rfl zhd_X12_isThere ⟨Nat.le_of_ble_eq_true rfl, Nat.le_of_ble_eq_true rfl⟩) [0, 1] rfl (of_decide_eq_true rfl) [0] rfl rfl rfl rfl hl.1 rfl (Nat.le_of_ble_eq_true rfl) dX12_error_1 ⟨Nat.le_of_ble_eq_true rfl, Nat.le_of_ble_eq_true rfl⟩ [some 0, some 1] (of_decide_eq_true rfl) (of_decide_eq_true rfl) rfl rfl rfl (fun H locs hw_4n hP hD hS => ?_)
  refine lv_if_eq (tgt := 15) hx hb dX12_error_4 (of_decide_eq_true rfl) (fun c_5 => ?_) (fun c_5 => ?_)
  · have hfn := (if_pos c_5).symm.trans hfn
    refine lv_ldc2 (v := (-1000000000000000)) hx hb hown (hts (.constantLong RX12 381 (-1000000000000000)) zw_X12_error_1195) dX12_error_15 ?_
    have ho := Option.some.inj hfn
    subst ho
    exact zrl hx hb hr hK hP hD hS hQ rfl hlocks dX12_error_18
  have hfn := (if_neg c_5).symm.trans hfn
  refine lv_aload_n hx hb dX12_error_7 rfl (lv_at hl 0 rfl) ?_
  refine lv_iload_n hx hb dX12_error_8 rfl (lv_at hl 1 rfl) ?_
  obtain ⟨o_6, hqo_6, hfn⟩ := zb_s hfn
  refine zcVb (ci := 12) (rest := []) (pc' := 12) (ws' := [(h0, .inr (12, zO a0 b0 c0)), zVi (a0 17) k1 2 f1, zVi (a0 37) k2 14 f2, zVi (a0 39) k3 14 f3, zVi (a0 19) k4 28 f4, zVi (a0 20) k5 28 f5, zVi (a0 21) k6 28 f6, zVl (a0 31) k7 14 f7, zVl (a0 22) k8 28 f8, zVl (a0 23) k9 28 f9, zVl (a0 32) k10 14 f10, zVi (a0 14) k11 8 f11, zVl (a0 40) k12 14 f12, zVi (a0 15) k13 8 f13, zVi (a0 26) k14 28 f14]) hP hK hD hS hA ⟨hx, hb, hml, hown, hts⟩ (zf_X12_isNumber l dC dI h0 p1 a0 b0 c0 k1 f1 o_6 hqo_6 H.size) (cwV 1 hts gX12_error_X12_isNumber rfl rfl rfl zhd_X12_isNumber ⟨Nat.le_of_ble_eq_true rfl, Nat.le_of_ble_eq_true rfl⟩) [0, 1] rfl (of_decide_eq_true rfl) [0] rfl rfl rfl rfl hl.1 rfl (Nat.le_of_ble_eq_true rfl) dX12_error_9 ⟨Nat.le_of_ble_eq_true rfl, Nat.le_of_ble_eq_true rfl⟩ [some 0, some 1] (of_decide_eq_true rfl) (of_decide_eq_true rfl) rfl rfl rfl (fun H locs hw_9n hP hD hS => ?_)
  refine lv_if_ne (tgt := 19) hx hb dX12_error_12 (of_decide_eq_true rfl) (fun c_10 => ?_) (fun c_10 => ?_)
  · have hfn := (if_neg c_10).symm.trans hfn
    refine lv_aload_n hx hb dX12_error_19 rfl (lv_at hl 0 rfl) ?_
    obtain ⟨o_11, hqo_11, hfn⟩ := zb_s hfn
    refine zcVb (ci := 12) (rest := []) (pc' := 23) (ws' := [(h0, .inr (12, zO a0 (zI (zI (zI b0 33 o_11.2.1) 41 o_11.2.2.1) 42 o_11.2.2.2.1) c0)), zVi (a0 17) k1 2 f1, zVi (a0 37) k2 14 f2, zVi (a0 39) k3 14 o_11.2.2.2.2.1, zVi (a0 19) k4 28 f4, zVi (a0 20) k5 28 f5, zVi (a0 21) k6 28 f6, zVl (a0 31) k7 14 o_11.2.2.2.2.2.1, zVl (a0 22) k8 28 f8, zVl (a0 23) k9 28 f9, zVl (a0 32) k10 14 o_11.2.2.2.2.2.2.1, zVi (a0 14) k11 8 f11, zVl (a0 40) k12 14 o_11.2.2.2.2.2.2.2, zVi (a0 15) k13 8 f13, zVi (a0 26) k14 28 f14]) hP hK hD hS hA ⟨hx, hb, hml, hown, hts⟩ (zf_X12_handPasses l dC dI h0 a0 b0 c0 k1 f1 k2 f2 k3 f3 k4 f4 k5 f5 k6 f6 k7 f7 k8 f8 k9 f9 k10 f10 k11 f11 k12 f12 k13 f13 k14 f14 o_11 hqo_11 H.size) (cwV 0 hts gX12_error_X12_handPasses rfl rfl rfl zhd_X12_handPasses ⟨Nat.le_of_ble_eq_true rfl, Nat.le_of_ble_eq_true rfl⟩) [0, 1, 2, 3, 4, 5, 6, 7, 8, 9, 10, 11, 12, 13, 14] rfl (of_decide_eq_true rfl) [0, 1, 2, 3, 4, 5, 6, 7, 8, 9, 10, 11, 12, 13] rfl rfl rfl rfl hl.1 rfl (Nat.le_of_ble_eq_true rfl) dX12_error_20 ⟨Nat.le_of_ble_eq_true rfl, Nat.le_of_ble_eq_true rfl⟩ [some 0, some 1, some 2, some 3, some 4, some 5, some 6, some 7, some 8, some 9, some 10, some 11, some 12, some 13, some 14] (of_decide_eq_true rfl) (of_decide_eq_true rfl) rfl rfl rfl (fun H locs hw_14n hP hD hS => ?_)
    refine lv_istore_n (lv' := [(2, .int o_11.1), (0, .ref h0), (1, .int p1)]) hx hb dX12_error_23 rfl hl (of_decide_eq_true rfl) rfl (fun ls hl => ?_)
    refine lv_iload_n hx hb dX12_error_24 rfl (lv_at hl 0 rfl) ?_
    refine lv_if_ne (tgt := 36) hx hb dX12_error_25 (of_decide_eq_true rfl) (fun c_15 => ?_) (fun c_15 => ?_)
    · have hfn := (if_neg c_15).symm.trans hfn
      refine lv_aload_n hx hb dX12_error_36 rfl (lv_at hl 1 rfl) ?_
      refine va_get (D := (dC, dI)) (ci := 12) (v := .ref (a0 40)) (C := RX12) (T := TX12) (N := 67) hx hb hts zn_X12_error_X12 hown hK hP 0 rfl rfl 40 (of_decide_eq_true rfl) (hts (.fieldLink RX12 135 "ShortEnoughModel" "error" "[J") zw_X12_error_1197) (fun _ h9 => h9) rfl dX12_error_37 ?_
      refine lv_iload_n hx hb dX12_error_40 rfl (lv_at hl 2 rfl) ?_
      obtain ⟨h_16, hfn⟩ := zg_s hfn
      refine va_lald hx hb hK hP 12 11 rfl rfl h_16 dX12_error_41 ?_
      refine lv_goto (tgt := 48) hx hb dX12_error_42 (of_decide_eq_true rfl) ?_
      have ho := Option.some.inj hfn
      subst ho
      exact zrl hx hb hr hK hP hD hS hQ rfl hlocks dX12_error_48
    have hfn := (if_pos c_15).symm.trans hfn
    refine lv_iload_n hx hb dX12_error_28 rfl (lv_at hl 2 rfl) ?_
    refine lv_aload_n hx hb dX12_error_29 rfl (lv_at hl 1 rfl) ?_
    refine va_get (D := (dC, dI)) (ci := 12) (v := .int o_11.2.2.1) (C := RX12) (T := TX12) (N := 67) hx hb hts zn_X12_error_X12 hown hK hP 0 rfl rfl 41 (of_decide_eq_true rfl) (hts (.fieldLink RX12 138 "ShortEnoughModel" "failsAt" "I") zw_X12_error_1198) (fun _ h9 => h9) rfl dX12_error_30 ?_
    refine lv_icmp_gt (tgt := 45) hx hb dX12_error_33 (of_decide_eq_true rfl) (fun c_17 => ?_) (fun c_17 => ?_)
    · have hfn := (if_pos c_17).symm.trans hfn
      refine lv_ldc2 (v := (-1000000000000000)) hx hb hown (hts (.constantLong RX12 381 (-1000000000000000)) zw_X12_error_1195) dX12_error_45 ?_
      have ho := Option.some.inj hfn
      subst ho
      exact zrl hx hb hr hK hP hD hS hQ rfl hlocks dX12_error_48
    have hfn := (if_neg c_17).symm.trans hfn
    refine lv_aload_n hx hb dX12_error_36 rfl (lv_at hl 1 rfl) ?_
    refine va_get (D := (dC, dI)) (ci := 12) (v := .ref (a0 40)) (C := RX12) (T := TX12) (N := 67) hx hb hts zn_X12_error_X12 hown hK hP 0 rfl rfl 40 (of_decide_eq_true rfl) (hts (.fieldLink RX12 135 "ShortEnoughModel" "error" "[J") zw_X12_error_1197) (fun _ h9 => h9) rfl dX12_error_37 ?_
    refine lv_iload_n hx hb dX12_error_40 rfl (lv_at hl 2 rfl) ?_
    obtain ⟨h_18, hfn⟩ := zg_s hfn
    refine va_lald hx hb hK hP 12 11 rfl rfl h_18 dX12_error_41 ?_
    refine lv_goto (tgt := 48) hx hb dX12_error_42 (of_decide_eq_true rfl) ?_
    have ho := Option.some.inj hfn
    subst ho
    exact zrl hx hb hr hK hP hD hS hQ rfl hlocks dX12_error_48
  have hfn := (if_pos c_10).symm.trans hfn
  refine lv_ldc2 (v := (-1000000000000000)) hx hb hown (hts (.constantLong RX12 381 (-1000000000000000)) zw_X12_error_1195) dX12_error_15 ?_
  have ho := Option.some.inj hfn
  subst ho
  exact zrl hx hb hr hK hP hD hS hQ rfl hlocks dX12_error_18
theorem zn_X12_isAnswer_X12 : ∀ w ∈ wsX120, w ∈ wsX12_isAnswer := fun _ h => List.mem_cons_of_mem _ (List.mem_append_right _ h)
theorem zw_X12_isAnswer_1200 : Cond.fieldLink RX12 90 "ShortEnoughModel" "within" "[I" ∈ wsX12_isAnswer := List.mem_of_getElem? (i := 1) (by decide +kernel)
set_option maxHeartbeats 4000000 in
set_option maxRecDepth 100000 in
theorem zf_X12_isAnswer (l : Launch) (dC : Nat → ClassId) (dI : Nat → Nat → Nat) (h0 : Nat) (p1 : Int32) (a0 : Nat → Nat) (b0 : Nat → Int32) (c0 : Nat → Int64) (k1 : Nat) (f1 : Nat → Int32) (k2 : Nat) (f2 : Nat → Int32) (o : Int32) (hfn : fn_X12_isAnswer p1 f1 f2 = some o) (sz : Nat) : zMi l yX12_isAnswer wsX12_isAnswer ({ frames := 2, cells := 0, slots := 0, locals := 46 }) (dC, dI) vwCl [.ref h0, .int p1] [(h0, .inr (12, zO a0 b0 c0)), zVi (a0 17) k1 2 f1, zVi (a0 26) k2 28 f2] [(k1, .int), (k2, .int)] (fun r _ => r = o ∧ narrow .boolean (.int o) = .int o) [(h0, .inr (12, zO a0 b0 c0)), zVi (a0 17) k1 2 f1, zVi (a0 26) k2 28 f2] [(k1, .int), (k2, .int)] sz := by
  refine zgoi (cc := cX12_isAnswer) (maxL := 2) (ret := (some .boolean)) (C0 := RX12) (lv0 := [(0, .ref h0), (1, .int p1)]) zpl_X12 rfl rfl rfl (Nat.le_of_ble_eq_true rfl) ?_
  intro p e s m below meth c A ls Q hx hb hr hts hown hlocks hml hP hK hD hA hS hl hQ
  unfold fn_X12_isAnswer at hfn
  refine lv_aload_n hx hb dX12_isAnswer_0 rfl (lv_at hl 0 rfl) ?_
  refine lv_iload_n hx hb dX12_isAnswer_1 rfl (lv_at hl 1 rfl) ?_
  obtain ⟨o_1, hqo_1, hfn⟩ := zb_s hfn
  refine zcVb (ci := 12) (rest := []) (pc' := 5) (ws' := [(h0, .inr (12, zO a0 b0 c0)), zVi (a0 17) k1 2 f1, zVi (a0 26) k2 28 f2]) hP hK hD hS hA ⟨hx, hb, hml, hown, hts⟩ (zf_X12_isNumber l dC dI h0 p1 a0 b0 c0 k1 f1 o_1 hqo_1 s.heap.size) (cwV 1 hts gX12_isAnswer_X12_isNumber rfl rfl rfl zhd_X12_isNumber ⟨Nat.le_of_ble_eq_true rfl, Nat.le_of_ble_eq_true rfl⟩) [0, 1] rfl (of_decide_eq_true rfl) [0] rfl rfl rfl rfl hl.1 rfl (Nat.le_of_ble_eq_true rfl) dX12_isAnswer_2 ⟨Nat.le_of_ble_eq_true rfl, Nat.le_of_ble_eq_true rfl⟩ [some 0, some 1] (of_decide_eq_true rfl) (of_decide_eq_true rfl) rfl rfl rfl (fun H locs hw_4n hP hD hS => ?_)
  refine lv_if_eq (tgt := 22) hx hb dX12_isAnswer_5 (of_decide_eq_true rfl) (fun c_5 => ?_) (fun c_5 => ?_)
  · have hfn := (if_pos c_5).symm.trans hfn
    refine lv_iconst (v := 0) hx hb dX12_isAnswer_22 zci_0 ?_
    have ho := Option.some.inj hfn
    subst ho
    exact zrz hx hb hr rfl hK hP hD hS hQ ⟨rfl, zB0⟩ hlocks dX12_isAnswer_23
  have hfn := (if_neg c_5).symm.trans hfn
  refine lv_aload_n hx hb dX12_isAnswer_8 rfl (lv_at hl 0 rfl) ?_
  refine va_get (D := (dC, dI)) (ci := 12) (v := .ref (a0 26)) (C := RX12) (T := TX12) (N := 67) hx hb hts zn_X12_isAnswer_X12 hown hK hP 0 rfl rfl 26 (of_decide_eq_true rfl) (hts (.fieldLink RX12 90 "ShortEnoughModel" "within" "[I") zw_X12_isAnswer_1200) (fun _ h9 => h9) rfl dX12_isAnswer_9 ?_
  refine lv_iload_n hx hb dX12_isAnswer_12 rfl (lv_at hl 1 rfl) ?_
  obtain ⟨h_6, hfn⟩ := zg_s hfn
  refine va_iald hx hb hK hP 2 1 rfl rfl h_6 dX12_isAnswer_13 ?_
  refine lv_iconst (v := (-1)) hx hb dX12_isAnswer_14 zci_m1 ?_
  refine lv_icmp_eq (tgt := 22) hx hb dX12_isAnswer_15 (of_decide_eq_true rfl) (fun c_7 => ?_) (fun c_7 => ?_)
  · have hfn := (if_pos c_7).symm.trans hfn
    refine lv_iconst (v := 0) hx hb dX12_isAnswer_22 zci_0 ?_
    have ho := Option.some.inj hfn
    subst ho
    exact zrz hx hb hr rfl hK hP hD hS hQ ⟨rfl, zB0⟩ hlocks dX12_isAnswer_23
  have hfn := (if_neg c_7).symm.trans hfn
  refine lv_iconst (v := 1) hx hb dX12_isAnswer_18 zci_1 ?_
  refine lv_goto (tgt := 23) hx hb dX12_isAnswer_19 (of_decide_eq_true rfl) ?_
  have ho := Option.some.inj hfn
  subst ho
  exact zrz hx hb hr rfl hK hP hD hS hQ ⟨rfl, zB1⟩ hlocks dX12_isAnswer_23
theorem zw_X12_slack_1201 : Cond.constantLong RX12 381 (-1000000000000000) ∈ wsX12_slack := List.mem_of_getElem? (i := 3) (by decide +kernel)
theorem zn_X12_slack_X12 : ∀ w ∈ wsX120, w ∈ wsX12_slack := fun _ h => List.mem_cons_of_mem _ (List.mem_append_right _ h)
theorem zw_X12_slack_1203 : Cond.fieldLink RX12 90 "ShortEnoughModel" "within" "[I" ∈ wsX12_slack := List.mem_of_getElem? (i := 1) (by decide +kernel)
theorem zw_X12_slack_1204 : Cond.fieldLink RX12 135 "ShortEnoughModel" "error" "[J" ∈ wsX12_slack := List.mem_of_getElem? (i := 2) (by decide +kernel)
set_option maxHeartbeats 4000000 in
set_option maxRecDepth 100000 in
theorem zf_X12_slack (l : Launch) (dC : Nat → ClassId) (dI : Nat → Nat → Nat) (h0 : Nat) (p1 : Int32) (a0 : Nat → Nat) (b0 : Nat → Int32) (c0 : Nat → Int64) (k1 : Nat) (f1 : Nat → Int32) (k2 : Nat) (f2 : Nat → Int32) (k3 : Nat) (f3 : Nat → Int32) (k4 : Nat) (f4 : Nat → Int32) (k5 : Nat) (f5 : Nat → Int32) (k6 : Nat) (f6 : Nat → Int32) (k7 : Nat) (f7 : Nat → Int32) (k8 : Nat) (f8 : Nat → Int64) (k9 : Nat) (f9 : Nat → Int64) (k10 : Nat) (f10 : Nat → Int64) (k11 : Nat) (f11 : Nat → Int64) (k12 : Nat) (f12 : Nat → Int32) (k13 : Nat) (f13 : Nat → Int64) (k14 : Nat) (f14 : Nat → Int32) (o : Int64 × Int32 × Int32 × Int32 × (Nat → Int32) × (Nat → Int64) × (Nat → Int64) × (Nat → Int64)) (hfn : fn_X12_slack p1 (b0 33) (c0 34) (b0 38) (b0 41) (b0 42) f1 f2 f3 f4 f5 f6 f7 f8 f9 f10 f11 f12 f13 f14 = some o) (sz : Nat) : zMl l yX12_slack wsX12_slack ({ frames := 6, cells := 0, slots := 0, locals := 154 }) (dC, dI) vwCl [.ref h0, .int p1] [(h0, .inr (12, zO a0 b0 c0)), zVi (a0 17) k1 2 f1, zVi (a0 26) k2 28 f2, zVi (a0 37) k3 14 f3, zVi (a0 39) k4 14 f4, zVi (a0 19) k5 28 f5, zVi (a0 20) k6 28 f6, zVi (a0 21) k7 28 f7, zVl (a0 31) k8 14 f8, zVl (a0 22) k9 28 f9, zVl (a0 23) k10 28 f10, zVl (a0 32) k11 14 f11, zVi (a0 14) k12 8 f12, zVl (a0 40) k13 14 f13, zVi (a0 15) k14 8 f14] [(k1, .int), (k2, .int), (k3, .int), (k4, .int), (k5, .int), (k6, .int), (k7, .int), (k8, .long), (k9, .long), (k10, .long), (k11, .long), (k12, .int), (k13, .long), (k14, .int)] (fun r _ => r = o.1) [(h0, .inr (12, zO a0 (zI (zI (zI b0 33 o.2.1) 41 o.2.2.1) 42 o.2.2.2.1) c0)), zVi (a0 17) k1 2 f1, zVi (a0 26) k2 28 f2, zVi (a0 37) k3 14 f3, zVi (a0 39) k4 14 o.2.2.2.2.1, zVi (a0 19) k5 28 f5, zVi (a0 20) k6 28 f6, zVi (a0 21) k7 28 f7, zVl (a0 31) k8 14 o.2.2.2.2.2.1, zVl (a0 22) k9 28 f9, zVl (a0 23) k10 28 f10, zVl (a0 32) k11 14 o.2.2.2.2.2.2.1, zVi (a0 14) k12 8 f12, zVl (a0 40) k13 14 o.2.2.2.2.2.2.2, zVi (a0 15) k14 8 f14] [(k1, .int), (k2, .int), (k3, .int), (k4, .int), (k5, .int), (k6, .int), (k7, .int), (k8, .long), (k9, .long), (k10, .long), (k11, .long), (k12, .int), (k13, .long), (k14, .int)] sz := by
  refine zgol (cc := cX12_slack) (maxL := 2) (ret := (some .long)) (C0 := RX12) (lv0 := [(0, .ref h0), (1, .int p1)]) zpl_X12 rfl rfl rfl (Nat.le_of_ble_eq_true rfl) ?_
  intro p e s m below meth c A ls Q hx hb hr hts hown hlocks hml hP hK hD hA hS hl hQ
  unfold fn_X12_slack at hfn
  refine lv_aload_n hx hb dX12_slack_0 rfl (lv_at hl 0 rfl) ?_
  refine lv_iload_n hx hb dX12_slack_1 rfl (lv_at hl 1 rfl) ?_
  obtain ⟨o_1, hqo_1, hfn⟩ := zb_s hfn
  refine zcVb (ci := 12) (rest := []) (pc' := 5) (ws' := [(h0, .inr (12, zO a0 b0 c0)), zVi (a0 17) k1 2 f1, zVi (a0 26) k2 28 f2, zVi (a0 37) k3 14 f3, zVi (a0 39) k4 14 f4, zVi (a0 19) k5 28 f5, zVi (a0 20) k6 28 f6, zVi (a0 21) k7 28 f7, zVl (a0 31) k8 14 f8, zVl (a0 22) k9 28 f9, zVl (a0 23) k10 28 f10, zVl (a0 32) k11 14 f11, zVi (a0 14) k12 8 f12, zVl (a0 40) k13 14 f13, zVi (a0 15) k14 8 f14]) hP hK hD hS hA ⟨hx, hb, hml, hown, hts⟩ (zf_X12_isAnswer l dC dI h0 p1 a0 b0 c0 k1 f1 k2 f2 o_1 hqo_1 s.heap.size) (cwV 1 hts gX12_slack_X12_isAnswer rfl rfl rfl zhd_X12_isAnswer ⟨Nat.le_of_ble_eq_true rfl, Nat.le_of_ble_eq_true rfl⟩) [0, 1, 2] rfl (of_decide_eq_true rfl) [0, 1] rfl rfl rfl rfl hl.1 rfl (Nat.le_of_ble_eq_true rfl) dX12_slack_2 ⟨Nat.le_of_ble_eq_true rfl, Nat.le_of_ble_eq_true rfl⟩ [some 0, some 1, some 2] (of_decide_eq_true rfl) (of_decide_eq_true rfl) rfl rfl rfl (fun H locs hw_4n hP hD hS => ?_)
  refine lv_if_eq (tgt := 32) hx hb dX12_slack_5 (of_decide_eq_true rfl) (fun c_5 => ?_) (fun c_5 => ?_)
  · have hfn := (if_pos c_5).symm.trans hfn
    refine lv_ldc2 (v := (-1000000000000000)) hx hb hown (hts (.constantLong RX12 381 (-1000000000000000)) zw_X12_slack_1201) dX12_slack_32 ?_
    have ho := Option.some.inj hfn
    subst ho
    exact zrl hx hb hr hK hP hD hS hQ rfl hlocks dX12_slack_35
  have hfn := (if_neg c_5).symm.trans hfn
  refine lv_aload_n hx hb dX12_slack_8 rfl (lv_at hl 0 rfl) ?_
  obtain ⟨o_6, hqo_6, hfn⟩ := zb_s hfn
  refine zcVb (ci := 12) (rest := []) (pc' := 12) (ws' := [(h0, .inr (12, zO a0 (zI (zI (zI b0 33 o_6.2.1) 41 o_6.2.2.1) 42 o_6.2.2.2.1) c0)), zVi (a0 17) k1 2 f1, zVi (a0 26) k2 28 f2, zVi (a0 37) k3 14 f3, zVi (a0 39) k4 14 o_6.2.2.2.2.1, zVi (a0 19) k5 28 f5, zVi (a0 20) k6 28 f6, zVi (a0 21) k7 28 f7, zVl (a0 31) k8 14 o_6.2.2.2.2.2.1, zVl (a0 22) k9 28 f9, zVl (a0 23) k10 28 f10, zVl (a0 32) k11 14 o_6.2.2.2.2.2.2.1, zVi (a0 14) k12 8 f12, zVl (a0 40) k13 14 o_6.2.2.2.2.2.2.2, zVi (a0 15) k14 8 f14]) hP hK hD hS hA ⟨hx, hb, hml, hown, hts⟩ (zf_X12_handPasses l dC dI h0 a0 b0 c0 k1 f1 k3 f3 k4 f4 k5 f5 k6 f6 k7 f7 k8 f8 k9 f9 k10 f10 k11 f11 k12 f12 k13 f13 k14 f14 k2 f2 o_6 hqo_6 H.size) (cwV 0 hts gX12_slack_X12_handPasses rfl rfl rfl zhd_X12_handPasses ⟨Nat.le_of_ble_eq_true rfl, Nat.le_of_ble_eq_true rfl⟩) [0, 1, 3, 4, 5, 6, 7, 8, 9, 10, 11, 12, 13, 14, 2] rfl (of_decide_eq_true rfl) [0, 2, 3, 4, 5, 6, 7, 8, 9, 10, 11, 12, 13, 1] rfl rfl rfl rfl hl.1 rfl (Nat.le_of_ble_eq_true rfl) dX12_slack_9 ⟨Nat.le_of_ble_eq_true rfl, Nat.le_of_ble_eq_true rfl⟩ [some 0, some 1, some 14, some 2, some 3, some 4, some 5, some 6, some 7, some 8, some 9, some 10, some 11, some 12, some 13] (of_decide_eq_true rfl) (of_decide_eq_true rfl) rfl rfl rfl (fun H locs hw_9n hP hD hS => ?_)
  refine lv_if_eq (tgt := 32) hx hb dX12_slack_12 (of_decide_eq_true rfl) (fun c_10 => ?_) (fun c_10 => ?_)
  · have hfn := (if_pos c_10).symm.trans hfn
    refine lv_ldc2 (v := (-1000000000000000)) hx hb hown (hts (.constantLong RX12 381 (-1000000000000000)) zw_X12_slack_1201) dX12_slack_32 ?_
    have ho := Option.some.inj hfn
    subst ho
    exact zrl hx hb hr hK hP hD hS hQ rfl hlocks dX12_slack_35
  have hfn := (if_neg c_10).symm.trans hfn
  refine lv_aload_n hx hb dX12_slack_15 rfl (lv_at hl 0 rfl) ?_
  refine va_get (D := (dC, dI)) (ci := 12) (v := .ref (a0 26)) (C := RX12) (T := TX12) (N := 67) hx hb hts zn_X12_slack_X12 hown hK hP 0 rfl rfl 26 (of_decide_eq_true rfl) (hts (.fieldLink RX12 90 "ShortEnoughModel" "within" "[I") zw_X12_slack_1203) (fun _ h9 => h9) rfl dX12_slack_16 ?_
  refine lv_iload_n hx hb dX12_slack_19 rfl (lv_at hl 1 rfl) ?_
  obtain ⟨h_11, hfn⟩ := zg_s hfn
  refine va_iald hx hb hK hP 2 1 rfl rfl h_11 dX12_slack_20 ?_
  refine lv_i2l (v := (f2 p1.toNatClampNeg).toInt64) hx hb dX12_slack_21 rfl ?_
  refine lv_aload_n hx hb dX12_slack_22 rfl (lv_at hl 0 rfl) ?_
  refine va_get (D := (dC, dI)) (ci := 12) (v := .ref (a0 40)) (C := RX12) (T := TX12) (N := 67) hx hb hts zn_X12_slack_X12 hown hK hP 0 rfl rfl 40 (of_decide_eq_true rfl) (hts (.fieldLink RX12 135 "ShortEnoughModel" "error" "[J") zw_X12_slack_1204) (fun _ h9 => h9) rfl dX12_slack_23 ?_
  refine lv_iload_n hx hb dX12_slack_26 rfl (lv_at hl 1 rfl) ?_
  obtain ⟨h_12, hfn⟩ := zg_s hfn
  refine va_lald hx hb hK hP 13 12 rfl rfl h_12 dX12_slack_27 ?_
  refine lv_lsub hx hb dX12_slack_28 ?_
  refine lv_goto (tgt := 35) hx hb dX12_slack_29 (of_decide_eq_true rfl) ?_
  have ho := Option.some.inj hfn
  subst ho
  exact zrl hx hb hr hK hP hD hS hQ rfl hlocks dX12_slack_35
theorem zn_X12_widest_X12 : ∀ w ∈ wsX120, w ∈ wsX12_widest := fun _ h => List.mem_cons_of_mem _ (List.mem_append_right _ h)
theorem zw_X12_widest_1206 : Cond.fieldLink RX12 68 "ShortEnoughModel" "op" "[I" ∈ wsX12_widest := List.mem_of_getElem? (i := 1) (by decide +kernel)
theorem zw_X12_widest_1207 : Cond.constant RX12 458 (10000000) ∈ wsX12_widest := List.mem_of_getElem? (i := 2) (by decide +kernel)
theorem zw_X12_widest_1208 : Cond.fieldLink RX12 112 "ShortEnoughModel" "wideNumber" "I" ∈ wsX12_widest := List.mem_of_getElem? (i := 3) (by decide +kernel)
theorem zw_X12_widest_1209 : Cond.fieldLink RX12 115 "ShortEnoughModel" "wideBy" "J" ∈ wsX12_widest := List.mem_of_getElem? (i := 4) (by decide +kernel)
set_option maxHeartbeats 4000000 in
set_option maxRecDepth 100000 in
theorem zf_X12_widest (l : Launch) (dC : Nat → ClassId) (dI : Nat → Nat → Nat) (h0 : Nat) (p1 : Int32) (a0 : Nat → Nat) (b0 : Nat → Int32) (c0 : Nat → Int64) (k1 : Nat) (f1 : Nat → Int32) (k2 : Nat) (f2 : Nat → Int32) (k3 : Nat) (f3 : Nat → Int32) (k4 : Nat) (f4 : Nat → Int32) (k5 : Nat) (f5 : Nat → Int32) (k6 : Nat) (f6 : Nat → Int32) (k7 : Nat) (f7 : Nat → Int64) (k8 : Nat) (f8 : Nat → Int64) (k9 : Nat) (f9 : Nat → Int64) (k10 : Nat) (f10 : Nat → Int64) (k11 : Nat) (f11 : Nat → Int32) (k12 : Nat) (f12 : Nat → Int64) (k13 : Nat) (f13 : Nat → Int32) (k14 : Nat) (f14 : Nat → Int32) (o : Int32 × Int32 × Int64 × Int32 × Int32 × (Nat → Int32) × (Nat → Int64) × (Nat → Int64) × (Nat → Int64)) (hfn : fn_X12_widest p1 (b0 33) (c0 34) (b0 38) (b0 41) (b0 42) f1 f2 f3 f4 f5 f6 f7 f8 f9 f10 f11 f12 f13 f14 = some o) (sz : Nat) : zMi l yX12_widest wsX12_widest ({ frames := 6, cells := 0, slots := 0, locals := 154 }) (dC, dI) vwCl [.ref h0, .int p1] [(h0, .inr (12, zO a0 b0 c0)), zVi (a0 17) k1 2 f1, zVi (a0 19) k2 28 f2, zVi (a0 37) k3 14 f3, zVi (a0 39) k4 14 f4, zVi (a0 20) k5 28 f5, zVi (a0 21) k6 28 f6, zVl (a0 31) k7 14 f7, zVl (a0 22) k8 28 f8, zVl (a0 23) k9 28 f9, zVl (a0 32) k10 14 f10, zVi (a0 14) k11 8 f11, zVl (a0 40) k12 14 f12, zVi (a0 15) k13 8 f13, zVi (a0 26) k14 28 f14] [(k1, .int), (k2, .int), (k3, .int), (k4, .int), (k5, .int), (k6, .int), (k7, .long), (k8, .long), (k9, .long), (k10, .long), (k11, .int), (k12, .long), (k13, .int), (k14, .int)] (fun r _ => r = o.1) [(h0, .inr (12, zO a0 (zI (zI (zI b0 33 o.2.1) 41 o.2.2.2.1) 42 o.2.2.2.2.1) (zJ c0 34 o.2.2.1))), zVi (a0 17) k1 2 f1, zVi (a0 19) k2 28 f2, zVi (a0 37) k3 14 f3, zVi (a0 39) k4 14 o.2.2.2.2.2.1, zVi (a0 20) k5 28 f5, zVi (a0 21) k6 28 f6, zVl (a0 31) k7 14 o.2.2.2.2.2.2.1, zVl (a0 22) k8 28 f8, zVl (a0 23) k9 28 f9, zVl (a0 32) k10 14 o.2.2.2.2.2.2.2.1, zVi (a0 14) k11 8 f11, zVl (a0 40) k12 14 o.2.2.2.2.2.2.2.2, zVi (a0 15) k13 8 f13, zVi (a0 26) k14 28 f14] [(k1, .int), (k2, .int), (k3, .int), (k4, .int), (k5, .int), (k6, .int), (k7, .long), (k8, .long), (k9, .long), (k10, .long), (k11, .int), (k12, .long), (k13, .int), (k14, .int)] sz := by
  refine zgoi (cc := cX12_widest) (maxL := 5) (ret := (some .int)) (C0 := RX12) (lv0 := [(0, .ref h0), (1, .int p1)]) zpl_X12 rfl rfl rfl (Nat.le_of_ble_eq_true rfl) ?_
  intro p e s m below meth c A ls Q hx hb hr hts hown hlocks hml hP hK hD hA hS hl hQ
  unfold fn_X12_widest at hfn
  refine lv_aload_n hx hb dX12_widest_0 rfl (lv_at hl 0 rfl) ?_
  refine lv_iload_n hx hb dX12_widest_1 rfl (lv_at hl 1 rfl) ?_
  obtain ⟨o_1, hqo_1, hfn⟩ := zb_s hfn
  refine zcVb (ci := 12) (rest := []) (pc' := 5) (ws' := [(h0, .inr (12, zO a0 b0 c0)), zVi (a0 17) k1 2 f1, zVi (a0 19) k2 28 f2, zVi (a0 37) k3 14 f3, zVi (a0 39) k4 14 f4, zVi (a0 20) k5 28 f5, zVi (a0 21) k6 28 f6, zVl (a0 31) k7 14 f7, zVl (a0 22) k8 28 f8, zVl (a0 23) k9 28 f9, zVl (a0 32) k10 14 f10, zVi (a0 14) k11 8 f11, zVl (a0 40) k12 14 f12, zVi (a0 15) k13 8 f13, zVi (a0 26) k14 28 f14]) hP hK hD hS hA ⟨hx, hb, hml, hown, hts⟩ (zf_X12_isNumber l dC dI h0 p1 a0 b0 c0 k1 f1 o_1 hqo_1 s.heap.size) (cwV 1 hts gX12_widest_X12_isNumber rfl rfl rfl zhd_X12_isNumber ⟨Nat.le_of_ble_eq_true rfl, Nat.le_of_ble_eq_true rfl⟩) [0, 1] rfl (of_decide_eq_true rfl) [0] rfl rfl rfl rfl hl.1 rfl (Nat.le_of_ble_eq_true rfl) dX12_widest_2 ⟨Nat.le_of_ble_eq_true rfl, Nat.le_of_ble_eq_true rfl⟩ [some 0, some 1] (of_decide_eq_true rfl) (of_decide_eq_true rfl) rfl rfl rfl (fun H locs hw_4n hP hD hS => ?_)
  refine lv_if_eq (tgt := 24) hx hb dX12_widest_5 (of_decide_eq_true rfl) (fun c_5 => ?_) (fun c_5 => ?_)
  · have hfn := (if_pos c_5).symm.trans hfn
    refine lv_iconst (v := (-1)) hx hb dX12_widest_24 zci_m1 ?_
    have ho := Option.some.inj hfn
    subst ho
    exact zri hx hb hr hK hP hD hS hQ rfl hlocks dX12_widest_25
  have hfn := (if_neg c_5).symm.trans hfn
  refine lv_aload_n hx hb dX12_widest_8 rfl (lv_at hl 0 rfl) ?_
  refine va_get (D := (dC, dI)) (ci := 12) (v := .ref (a0 19)) (C := RX12) (T := TX12) (N := 67) hx hb hts zn_X12_widest_X12 hown hK hP 0 rfl rfl 19 (of_decide_eq_true rfl) (hts (.fieldLink RX12 68 "ShortEnoughModel" "op" "[I") zw_X12_widest_1206) (fun _ h9 => h9) rfl dX12_widest_9 ?_
  refine lv_iload_n hx hb dX12_widest_12 rfl (lv_at hl 1 rfl) ?_
  obtain ⟨h_6, hfn⟩ := zg_s hfn
  refine va_iald hx hb hK hP 2 1 rfl rfl h_6 dX12_widest_13 ?_
  refine lv_if_ne (tgt := 24) hx hb dX12_widest_14 (of_decide_eq_true rfl) (fun c_7 => ?_) (fun c_7 => ?_)
  · have hfn := (if_neg c_7).symm.trans hfn
    refine lv_iconst (v := (-1)) hx hb dX12_widest_24 zci_m1 ?_
    have ho := Option.some.inj hfn
    subst ho
    exact zri hx hb hr hK hP hD hS hQ rfl hlocks dX12_widest_25
  have hfn := (if_pos c_7).symm.trans hfn
  refine lv_aload_n hx hb dX12_widest_17 rfl (lv_at hl 0 rfl) ?_
  obtain ⟨o_8, hqo_8, hfn⟩ := zb_s hfn
  refine zcVb (ci := 12) (rest := []) (pc' := 21) (ws' := [(h0, .inr (12, zO a0 (zI (zI (zI b0 33 o_8.2.1) 41 o_8.2.2.1) 42 o_8.2.2.2.1) c0)), zVi (a0 17) k1 2 f1, zVi (a0 19) k2 28 f2, zVi (a0 37) k3 14 f3, zVi (a0 39) k4 14 o_8.2.2.2.2.1, zVi (a0 20) k5 28 f5, zVi (a0 21) k6 28 f6, zVl (a0 31) k7 14 o_8.2.2.2.2.2.1, zVl (a0 22) k8 28 f8, zVl (a0 23) k9 28 f9, zVl (a0 32) k10 14 o_8.2.2.2.2.2.2.1, zVi (a0 14) k11 8 f11, zVl (a0 40) k12 14 o_8.2.2.2.2.2.2.2, zVi (a0 15) k13 8 f13, zVi (a0 26) k14 28 f14]) hP hK hD hS hA ⟨hx, hb, hml, hown, hts⟩ (zf_X12_handPasses l dC dI h0 a0 b0 c0 k1 f1 k3 f3 k4 f4 k2 f2 k5 f5 k6 f6 k7 f7 k8 f8 k9 f9 k10 f10 k11 f11 k12 f12 k13 f13 k14 f14 o_8 hqo_8 H.size) (cwV 0 hts gX12_widest_X12_handPasses rfl rfl rfl zhd_X12_handPasses ⟨Nat.le_of_ble_eq_true rfl, Nat.le_of_ble_eq_true rfl⟩) [0, 1, 3, 4, 2, 5, 6, 7, 8, 9, 10, 11, 12, 13, 14] rfl (of_decide_eq_true rfl) [0, 2, 3, 1, 4, 5, 6, 7, 8, 9, 10, 11, 12, 13] rfl rfl rfl rfl hl.1 rfl (Nat.le_of_ble_eq_true rfl) dX12_widest_18 ⟨Nat.le_of_ble_eq_true rfl, Nat.le_of_ble_eq_true rfl⟩ [some 0, some 1, some 4, some 2, some 3, some 5, some 6, some 7, some 8, some 9, some 10, some 11, some 12, some 13, some 14] (of_decide_eq_true rfl) (of_decide_eq_true rfl) rfl rfl rfl (fun H locs hw_11n hP hD hS => ?_)
  refine lv_if_ne (tgt := 26) hx hb dX12_widest_21 (of_decide_eq_true rfl) (fun c_12 => ?_) (fun c_12 => ?_)
  · have hfn := (if_neg c_12).symm.trans hfn
    refine lv_iconst (v := 0) hx hb dX12_widest_26 zci_0 ?_
    refine lv_istore_n (lv' := [(2, .int 0), (0, .ref h0), (1, .int p1)]) hx hb dX12_widest_27 rfl hl (of_decide_eq_true rfl) rfl (fun ls hl => ?_)
    refine lv_ldcw (v := 10000000) hx hb hown (hts (.constant RX12 458 (10000000)) zw_X12_widest_1207) dX12_widest_28 ?_
    refine lv_istore_n (lv' := [(3, .int 10000000), (2, .int 0), (0, .ref h0), (1, .int p1)]) hx hb dX12_widest_31 rfl hl (of_decide_eq_true rfl) rfl (fun ls hl => ?_)
    refine lv_aload_n hx hb dX12_widest_32 rfl (lv_at hl 2 rfl) ?_
    refine lv_iload_n hx hb dX12_widest_33 rfl (lv_at hl 3 rfl) ?_
    refine va_put (D := (dC, dI)) (ci := 12) (v := .int p1) (ty := .int) (C := RX12) (T := TX12) (N := 67) hx hb hts zn_X12_widest_X12 tyX12 tyX12_ok nmX12 hown hK hP hD hS 0 rfl rfl 33 (of_decide_eq_true rfl) (hts (.fieldLink RX12 112 "ShortEnoughModel" "wideNumber" "I") zw_X12_widest_1208) (fun _ h9 => h9) rfl (tyX12_ok 33 (of_decide_eq_true rfl)) rfl rfl (Nat.le_of_ble_eq_true rfl) dX12_widest_34 (fun H locs hP hD hS => ?_)
    have hP : va_P (dC, dI) vwCl [(h0, .inr (12, zO a0 (zI (zI (zI b0 33 p1) 41 o_8.2.2.1) 42 o_8.2.2.2.1) c0)), zVi (a0 17) k1 2 f1, zVi (a0 19) k2 28 f2, zVi (a0 37) k3 14 f3, zVi (a0 39) k4 14 o_8.2.2.2.2.1, zVi (a0 20) k5 28 f5, zVi (a0 21) k6 28 f6, zVl (a0 31) k7 14 o_8.2.2.2.2.2.1, zVl (a0 22) k8 28 f8, zVl (a0 23) k9 28 f9, zVl (a0 32) k10 14 o_8.2.2.2.2.2.2.1, zVi (a0 14) k11 8 f11, zVl (a0 40) k12 14 o_8.2.2.2.2.2.2.2, zVi (a0 15) k13 8 f13, zVi (a0 26) k14 28 f14] H := hP
    have hD := zDW hD hP rfl
    obtain ⟨bd_13, ebd_13, hfn⟩ := zl_g hfn
    have lp_13 : ∀ (n : Nat) (s_13 : Int32 × Int32 × Int64 × Int32 × Int32 × (Nat → Int64) × (Nat → Int64) × (Nat → Int64)) (H : Heap) (locs : List Loc) (ls : Array Slot), zl bd_13 n s_13 = some o → va_P (dC, dI) vwCl [(h0, .inr (12, zO a0 (zI (zI (zI b0 33 p1) 41 s_13.2.2.2.1) 42 s_13.2.2.2.2.1) (zJ c0 34 s_13.2.2.1))), zVi (a0 17) k1 2 f1, zVi (a0 19) k2 28 f2, zVi (a0 37) k3 14 f3, zVi (a0 39) k4 14 o_8.2.2.2.2.1, zVi (a0 20) k5 28 f5, zVi (a0 21) k6 28 f6, zVl (a0 31) k7 14 s_13.2.2.2.2.2.1, zVl (a0 22) k8 28 f8, zVl (a0 23) k9 28 f9, zVl (a0 32) k10 14 s_13.2.2.2.2.2.2.1, zVi (a0 14) k11 8 f11, zVl (a0 40) k12 14 s_13.2.2.2.2.2.2.2, zVi (a0 15) k13 8 f13, zVi (a0 26) k14 28 f14] H → va_D A [(h0, .inr (12, zO a0 (zI (zI (zI b0 33 p1) 41 s_13.2.2.2.1) 42 s_13.2.2.2.2.1) (zJ c0 34 s_13.2.2.1))), zVi (a0 17) k1 2 f1, zVi (a0 19) k2 28 f2, zVi (a0 37) k3 14 f3, zVi (a0 39) k4 14 o_8.2.2.2.2.1, zVi (a0 20) k5 28 f5, zVi (a0 21) k6 28 f6, zVl (a0 31) k7 14 s_13.2.2.2.2.2.1, zVl (a0 22) k8 28 f8, zVl (a0 23) k9 28 f9, zVl (a0 32) k10 14 s_13.2.2.2.2.2.2.1, zVi (a0 14) k11 8 f11, zVl (a0 40) k12 14 s_13.2.2.2.2.2.2.2, zVi (a0 15) k13 8 f13, zVi (a0 26) k14 28 f14] → va_S A s.heap H locs → lv_has ls 5 [(3, .int s_13.2.1), (2, .int s_13.1), (0, .ref h0)] → W p l e (headSpec wsX12_widest ({ frames := 6, cells := 0, slots := 0, locals := 154 })).room s m ([.ref h0, .int p1] : List Value).toArray below meth c H locs 0 0 Q (F0 m 37 ls []) := by
      intro n
      induction n with
      | zero => exact fun _ _ _ _ hfn => (zl_0 hfn).elim
      | succ n ih_13 =>
        intro s_13 H locs ls hfn hP hD hS hl
        have hfn := zl_s ebd_13 hfn
        refine lv_iload_n hx hb dX12_widest_37 rfl (lv_at hl 1 rfl) ?_
        refine lv_iload_n hx hb dX12_widest_38 rfl (lv_at hl 0 rfl) ?_
        refine lv_icmp_ge (tgt := 81) hx hb dX12_widest_39 (of_decide_eq_true rfl) (fun c_14 => ?_) (fun c_14 => ?_)
        · have hfn := (if_pos c_14).symm.trans hfn
          refine lv_aload_n hx hb dX12_widest_81 rfl (lv_at hl 2 rfl) ?_
          refine lv_iconst (v := (-1)) hx hb dX12_widest_82 zci_m1 ?_
          refine va_put (D := (dC, dI)) (ci := 12) (v := .int (-1)) (ty := .int) (C := RX12) (T := TX12) (N := 67) hx hb hts zn_X12_widest_X12 tyX12 tyX12_ok nmX12 hown hK hP hD hS 0 rfl rfl 33 (of_decide_eq_true rfl) (hts (.fieldLink RX12 112 "ShortEnoughModel" "wideNumber" "I") zw_X12_widest_1208) (fun _ h9 => h9) rfl (tyX12_ok 33 (of_decide_eq_true rfl)) rfl rfl (Nat.le_of_ble_eq_true rfl) dX12_widest_83 (fun H locs hP hD hS => ?_)
          have hP : va_P (dC, dI) vwCl [(h0, .inr (12, zO a0 (zI (zI (zI b0 33 (-1)) 41 s_13.2.2.2.1) 42 s_13.2.2.2.2.1) (zJ c0 34 s_13.2.2.1))), zVi (a0 17) k1 2 f1, zVi (a0 19) k2 28 f2, zVi (a0 37) k3 14 f3, zVi (a0 39) k4 14 o_8.2.2.2.2.1, zVi (a0 20) k5 28 f5, zVi (a0 21) k6 28 f6, zVl (a0 31) k7 14 s_13.2.2.2.2.2.1, zVl (a0 22) k8 28 f8, zVl (a0 23) k9 28 f9, zVl (a0 32) k10 14 s_13.2.2.2.2.2.2.1, zVi (a0 14) k11 8 f11, zVl (a0 40) k12 14 s_13.2.2.2.2.2.2.2, zVi (a0 15) k13 8 f13, zVi (a0 26) k14 28 f14] H := hP
          have hD := zDW hD hP rfl
          refine lv_iload_n hx hb dX12_widest_86 rfl (lv_at hl 1 rfl) ?_
          have ho := Option.some.inj hfn
          subst ho
          exact zri hx hb hr hK hP hD hS hQ rfl hlocks dX12_widest_87
        have hfn := (if_neg c_14).symm.trans hfn
        refine lv_iload_n hx hb dX12_widest_42 rfl (lv_at hl 1 rfl) ?_
        refine lv_iload_n hx hb dX12_widest_43 rfl (lv_at hl 0 rfl) ?_
        refine lv_iload_n hx hb dX12_widest_44 rfl (lv_at hl 1 rfl) ?_
        refine lv_isub hx hb dX12_widest_45 ?_
        refine lv_iconst (v := 1) hx hb dX12_widest_46 zci_1 ?_
        refine lv_iadd hx hb dX12_widest_47 ?_
        refine lv_iconst (v := 2) hx hb dX12_widest_48 zci_2 ?_
        refine lv_idiv hx hb dX12_widest_49 (by decide +kernel) ?_
        refine lv_iadd hx hb dX12_widest_50 ?_
        refine lv_istore (lv' := [(4, .int (s_13.1 + (((s_13.2.1 - s_13.1) + 1) / 2))), (3, .int s_13.2.1), (2, .int s_13.1), (0, .ref h0)]) hx hb dX12_widest_51 hl (of_decide_eq_true rfl) rfl (fun ls hl => ?_)
        refine lv_aload_n hx hb dX12_widest_53 rfl (lv_at hl 3 rfl) ?_
        refine lv_iload hx hb dX12_widest_54 (lv_at hl 0 rfl) ?_
        refine lv_i2l (v := (s_13.1 + (((s_13.2.1 - s_13.1) + 1) / 2)).toInt64) hx hb dX12_widest_56 rfl ?_
        refine va_put (D := (dC, dI)) (ci := 12) (v := .long (s_13.1 + (((s_13.2.1 - s_13.1) + 1) / 2)).toInt64) (ty := .long) (C := RX12) (T := TX12) (N := 67) hx hb hts zn_X12_widest_X12 tyX12 tyX12_ok nmX12 hown hK hP hD hS 0 rfl rfl 34 (of_decide_eq_true rfl) (hts (.fieldLink RX12 115 "ShortEnoughModel" "wideBy" "J") zw_X12_widest_1209) (fun _ h9 => h9) rfl (tyX12_ok 34 (of_decide_eq_true rfl)) rfl rfl (Nat.le_of_ble_eq_true rfl) dX12_widest_57 (fun H locs hP hD hS => ?_)
        have hP : va_P (dC, dI) vwCl [(h0, .inr (12, zO a0 (zI (zI (zI b0 33 p1) 41 s_13.2.2.2.1) 42 s_13.2.2.2.2.1) (zJ c0 34 (s_13.1 + (((s_13.2.1 - s_13.1) + 1) / 2)).toInt64))), zVi (a0 17) k1 2 f1, zVi (a0 19) k2 28 f2, zVi (a0 37) k3 14 f3, zVi (a0 39) k4 14 o_8.2.2.2.2.1, zVi (a0 20) k5 28 f5, zVi (a0 21) k6 28 f6, zVl (a0 31) k7 14 s_13.2.2.2.2.2.1, zVl (a0 22) k8 28 f8, zVl (a0 23) k9 28 f9, zVl (a0 32) k10 14 s_13.2.2.2.2.2.2.1, zVi (a0 14) k11 8 f11, zVl (a0 40) k12 14 s_13.2.2.2.2.2.2.2, zVi (a0 15) k13 8 f13, zVi (a0 26) k14 28 f14] H := hP
        have hD := zDW hD hP rfl
        refine lv_aload_n hx hb dX12_widest_60 rfl (lv_at hl 3 rfl) ?_
        obtain ⟨o_15, hqo_15, hfn⟩ := zb_s hfn
        refine zcVb (ci := 12) (rest := []) (pc' := 64) (ws' := [(h0, .inr (12, zO a0 (zI (zI (zI b0 33 p1) 41 o_15.2.1) 42 o_15.2.2.1) (zJ c0 34 (s_13.1 + (((s_13.2.1 - s_13.1) + 1) / 2)).toInt64))), zVi (a0 17) k1 2 f1, zVi (a0 19) k2 28 f2, zVi (a0 37) k3 14 f3, zVi (a0 39) k4 14 o_8.2.2.2.2.1, zVi (a0 20) k5 28 f5, zVi (a0 21) k6 28 f6, zVl (a0 31) k7 14 o_15.2.2.2.1, zVl (a0 22) k8 28 f8, zVl (a0 23) k9 28 f9, zVl (a0 32) k10 14 o_15.2.2.2.2.1, zVi (a0 14) k11 8 f11, zVl (a0 40) k12 14 o_15.2.2.2.2.2, zVi (a0 15) k13 8 f13, zVi (a0 26) k14 28 f14]) hP hK hD hS hA ⟨hx, hb, hml, hown, hts⟩ (zf_X12_passes l dC dI h0 a0 (zI (zI (zI b0 33 p1) 41 s_13.2.2.2.1) 42 s_13.2.2.2.2.1) (zJ c0 34 (s_13.1 + (((s_13.2.1 - s_13.1) + 1) / 2)).toInt64) k1 f1 k2 f2 k5 f5 k6 f6 k7 s_13.2.2.2.2.2.1 k8 f8 k9 f9 k10 s_13.2.2.2.2.2.2.1 k4 o_8.2.2.2.2.1 k11 f11 k12 s_13.2.2.2.2.2.2.2 k13 f13 k14 f14 o_15 hqo_15 H.size) (cwV 0 hts gX12_widest_X12_passes rfl rfl rfl zhd_X12_passes ⟨Nat.le_of_ble_eq_true rfl, Nat.le_of_ble_eq_true rfl⟩) [0, 1, 2, 5, 6, 7, 8, 9, 10, 4, 11, 12, 13, 14] rfl (of_decide_eq_true rfl) [0, 1, 4, 5, 6, 7, 8, 9, 3, 10, 11, 12, 13] rfl rfl rfl rfl hl.1 rfl (Nat.le_of_ble_eq_true rfl) dX12_widest_61 ⟨Nat.le_of_ble_eq_true rfl, Nat.le_of_ble_eq_true rfl⟩ [some 0, some 1, some 2, none, some 9, some 3, some 4, some 5, some 6, some 7, some 8, some 10, some 11, some 12, some 13] (of_decide_eq_true rfl) (of_decide_eq_true rfl) rfl rfl rfl (fun H locs hw_18n hP hD hS => ?_)
        refine lv_if_eq (tgt := 73) hx hb dX12_widest_64 (of_decide_eq_true rfl) (fun c_19 => ?_) (fun c_19 => ?_)
        · have hfn := (if_pos c_19).symm.trans hfn
          refine lv_iload hx hb dX12_widest_73 (lv_at hl 0 rfl) ?_
          refine lv_iconst (v := 1) hx hb dX12_widest_75 zci_1 ?_
          refine lv_isub hx hb dX12_widest_76 ?_
          refine lv_istore_n (lv' := [(3, .int ((s_13.1 + (((s_13.2.1 - s_13.1) + 1) / 2)) - 1)), (4, .int (s_13.1 + (((s_13.2.1 - s_13.1) + 1) / 2))), (2, .int s_13.1), (0, .ref h0)]) hx hb dX12_widest_77 rfl hl (of_decide_eq_true rfl) rfl (fun ls hl => ?_)
          refine lv_goto (tgt := 37) hx hb dX12_widest_78 (of_decide_eq_true rfl) ?_
          exact ih_13 (s_13.1, ((s_13.1 + (((s_13.2.1 - s_13.1) + 1) / 2)) - 1), (s_13.1 + (((s_13.2.1 - s_13.1) + 1) / 2)).toInt64, o_15.2.1, o_15.2.2.1, o_15.2.2.2.1, o_15.2.2.2.2.1, o_15.2.2.2.2.2) H locs ls hfn hP hD hS (lv_sub hl [0, 2, 3] rfl)
        have hfn := (if_neg c_19).symm.trans hfn
        refine lv_iload hx hb dX12_widest_67 (lv_at hl 0 rfl) ?_
        refine lv_istore_n (lv' := [(2, .int (s_13.1 + (((s_13.2.1 - s_13.1) + 1) / 2))), (4, .int (s_13.1 + (((s_13.2.1 - s_13.1) + 1) / 2))), (3, .int s_13.2.1), (0, .ref h0)]) hx hb dX12_widest_69 rfl hl (of_decide_eq_true rfl) rfl (fun ls hl => ?_)
        refine lv_goto (tgt := 78) hx hb dX12_widest_70 (of_decide_eq_true rfl) ?_
        refine lv_goto (tgt := 37) hx hb dX12_widest_78 (of_decide_eq_true rfl) ?_
        exact ih_13 ((s_13.1 + (((s_13.2.1 - s_13.1) + 1) / 2)), s_13.2.1, (s_13.1 + (((s_13.2.1 - s_13.1) + 1) / 2)).toInt64, o_15.2.1, o_15.2.2.1, o_15.2.2.2.1, o_15.2.2.2.2.1, o_15.2.2.2.2.2) H locs ls hfn hP hD hS (lv_sub hl [2, 0, 3] rfl)
    exact lp_13 _ (0, 10000000, (c0 34), o_8.2.2.1, o_8.2.2.2.1, o_8.2.2.2.2.2.1, o_8.2.2.2.2.2.2.1, o_8.2.2.2.2.2.2.2) H locs ls hfn hP hD hS (lv_sub hl [0, 1, 2] rfl)
  have hfn := (if_pos c_12).symm.trans hfn
  refine lv_iconst (v := (-1)) hx hb dX12_widest_24 zci_m1 ?_
  have ho := Option.some.inj hfn
  subst ho
  exact zri hx hb hr hK hP hD hS hQ rfl hlocks dX12_widest_25
theorem zn_X12_finest_X12 : ∀ w ∈ wsX120, w ∈ wsX12_finest := fun _ h => List.mem_cons_of_mem _ (List.mem_append_right _ h)
theorem zw_X12_finest_1211 : Cond.fieldLink RX12 47 "ShortEnoughModel" "formats" "[I" ∈ wsX12_finest := List.mem_of_getElem? (i := 1) (by decide +kernel)
theorem zw_X12_finest_1212 : Cond.fieldLink RX12 53 "ShortEnoughModel" "step" "[I" ∈ wsX12_finest := List.mem_of_getElem? (i := 2) (by decide +kernel)
set_option maxHeartbeats 4000000 in
set_option maxRecDepth 100000 in
theorem zf_X12_finest (l : Launch) (dC : Nat → ClassId) (dI : Nat → Nat → Nat) (h0 : Nat) (a0 : Nat → Nat) (b0 : Nat → Int32) (c0 : Nat → Int64) (k1 : Nat) (f1 : Nat → Int32) (k2 : Nat) (f2 : Nat → Int32) (o : Int32) (hfn : fn_X12_finest f1 f2 = some o) (sz : Nat) : zMi l yX12_finest wsX12_finest ({ frames := 0, cells := 0, slots := 0, locals := 0 }) (dC, dI) vwCl [.ref h0] [(h0, .inr (12, zO a0 b0 c0)), zVi (a0 12) k1 2 f1, zVi (a0 14) k2 8 f2] [(k1, .int), (k2, .int)] (fun r _ => r = o) [(h0, .inr (12, zO a0 b0 c0)), zVi (a0 12) k1 2 f1, zVi (a0 14) k2 8 f2] [(k1, .int), (k2, .int)] sz := by
  refine zgoi (cc := cX12_finest) (maxL := 3) (ret := (some .int)) (C0 := RX12) (lv0 := [(0, .ref h0)]) zpl_X12 rfl rfl rfl (Nat.le_of_ble_eq_true rfl) ?_
  intro p e s m below meth c A ls Q hx hb hr hts hown hlocks hml hP hK hD hA hS hl hQ
  unfold fn_X12_finest at hfn
  refine lv_iconst (v := 0) hx hb dX12_finest_0 zci_0 ?_
  refine lv_istore_n (lv' := [(1, .int 0), (0, .ref h0)]) hx hb dX12_finest_1 rfl hl (of_decide_eq_true rfl) rfl (fun ls hl => ?_)
  refine lv_iconst (v := 1) hx hb dX12_finest_2 zci_1 ?_
  refine lv_istore_n (lv' := [(2, .int 1), (1, .int 0), (0, .ref h0)]) hx hb dX12_finest_3 rfl hl (of_decide_eq_true rfl) rfl (fun ls hl => ?_)
  obtain ⟨bd_1, ebd_1, hfn⟩ := zl_g hfn
  have lp_1 : ∀ (n : Nat) (s_1 : Int32 × Int32) (H : Heap) (locs : List Loc) (ls : Array Slot), zl bd_1 n s_1 = some o → va_P (dC, dI) vwCl [(h0, .inr (12, zO a0 b0 c0)), zVi (a0 12) k1 2 f1, zVi (a0 14) k2 8 f2] H → va_D A [(h0, .inr (12, zO a0 b0 c0)), zVi (a0 12) k1 2 f1, zVi (a0 14) k2 8 f2] → va_S A s.heap H locs → lv_has ls 3 [(2, .int s_1.2), (1, .int s_1.1), (0, .ref h0)] → W p l e (headSpec wsX12_finest ({ frames := 0, cells := 0, slots := 0, locals := 0 })).room s m ([.ref h0] : List Value).toArray below meth c H locs 0 0 Q (F0 m 4 ls []) := by
    intro n
    induction n with
    | zero => exact fun _ _ _ _ hfn => (zl_0 hfn).elim
    | succ n ih_1 =>
      intro s_1 H locs ls hfn hP hD hS hl
      have hfn := zl_s ebd_1 hfn
      refine lv_iload_n hx hb dX12_finest_4 rfl (lv_at hl 0 rfl) ?_
      refine lv_aload_n hx hb dX12_finest_5 rfl (lv_at hl 2 rfl) ?_
      refine va_get (D := (dC, dI)) (ci := 12) (v := .ref (a0 12)) (C := RX12) (T := TX12) (N := 67) hx hb hts zn_X12_finest_X12 hown hK hP 0 rfl rfl 12 (of_decide_eq_true rfl) (hts (.fieldLink RX12 47 "ShortEnoughModel" "formats" "[I") zw_X12_finest_1211) (fun _ h9 => h9) rfl dX12_finest_6 ?_
      refine lv_iconst (v := 0) hx hb dX12_finest_9 zci_0 ?_
      refine va_iald hx hb hK hP 1 0 rfl rfl (zv_in (by decide +kernel)) dX12_finest_10 ?_
      refine lv_icmp_ge (tgt := 37) hx hb dX12_finest_11 (of_decide_eq_true rfl) (fun c_2 => ?_) (fun c_2 => ?_)
      · have hfn := (if_pos c_2).symm.trans hfn
        refine lv_iload_n hx hb dX12_finest_37 rfl (lv_at hl 1 rfl) ?_
        have ho := Option.some.inj hfn
        subst ho
        exact zri hx hb hr hK hP hD hS hQ rfl hlocks dX12_finest_38
      have hfn := (if_neg c_2).symm.trans hfn
      refine lv_aload_n hx hb dX12_finest_14 rfl (lv_at hl 2 rfl) ?_
      refine va_get (D := (dC, dI)) (ci := 12) (v := .ref (a0 14)) (C := RX12) (T := TX12) (N := 67) hx hb hts zn_X12_finest_X12 hown hK hP 0 rfl rfl 14 (of_decide_eq_true rfl) (hts (.fieldLink RX12 53 "ShortEnoughModel" "step" "[I") zw_X12_finest_1212) (fun _ h9 => h9) rfl dX12_finest_15 ?_
      refine lv_iload_n hx hb dX12_finest_18 rfl (lv_at hl 0 rfl) ?_
      obtain ⟨h_3, hfn⟩ := zg_s hfn
      refine va_iald hx hb hK hP 2 1 rfl rfl h_3 dX12_finest_19 ?_
      refine lv_aload_n hx hb dX12_finest_20 rfl (lv_at hl 2 rfl) ?_
      refine va_get (D := (dC, dI)) (ci := 12) (v := .ref (a0 14)) (C := RX12) (T := TX12) (N := 67) hx hb hts zn_X12_finest_X12 hown hK hP 0 rfl rfl 14 (of_decide_eq_true rfl) (hts (.fieldLink RX12 53 "ShortEnoughModel" "step" "[I") zw_X12_finest_1212) (fun _ h9 => h9) rfl dX12_finest_21 ?_
      refine lv_iload_n hx hb dX12_finest_24 rfl (lv_at hl 1 rfl) ?_
      obtain ⟨h_4, hfn⟩ := zg_s hfn
      refine va_iald hx hb hK hP 2 1 rfl rfl h_4 dX12_finest_25 ?_
      refine lv_icmp_ge (tgt := 31) hx hb dX12_finest_26 (of_decide_eq_true rfl) (fun c_5 => ?_) (fun c_5 => ?_)
      · have hfn := (if_pos c_5).symm.trans hfn
        refine lv_iinc (v := (s_1.2 + 1)) (lv' := [(2, .int (s_1.2 + 1)), (1, .int s_1.1), (0, .ref h0)]) hx hb dX12_finest_31 hl (k := 0) rfl rfl (of_decide_eq_true rfl) rfl (fun ls hl => ?_)
        refine lv_goto (tgt := 4) hx hb dX12_finest_34 (of_decide_eq_true rfl) ?_
        exact ih_1 (s_1.1, (s_1.2 + 1)) H locs ls hfn hP hD hS (lv_sub hl [0, 1, 2] rfl)
      have hfn := (if_neg c_5).symm.trans hfn
      refine lv_iload_n hx hb dX12_finest_29 rfl (lv_at hl 0 rfl) ?_
      refine lv_istore_n (lv' := [(1, .int s_1.2), (2, .int s_1.2), (0, .ref h0)]) hx hb dX12_finest_30 rfl hl (of_decide_eq_true rfl) rfl (fun ls hl => ?_)
      refine lv_iinc (v := (s_1.2 + 1)) (lv' := [(2, .int (s_1.2 + 1)), (1, .int s_1.2), (0, .ref h0)]) hx hb dX12_finest_31 hl (k := 1) rfl rfl (of_decide_eq_true rfl) rfl (fun ls hl => ?_)
      refine lv_goto (tgt := 4) hx hb dX12_finest_34 (of_decide_eq_true rfl) ?_
      exact ih_1 (s_1.2, (s_1.2 + 1)) H locs ls hfn hP hD hS (lv_sub hl [0, 1, 2] rfl)
  exact lp_1 _ (0, 1) s.heap [] ls hfn hP hD hS (lv_sub hl [0, 1, 2] rfl)
theorem zw_X12_blame_1213 : Cond.constantLong RX12 381 (-1000000000000000) ∈ wsX12_blame := List.mem_of_getElem? (i := 2) (by decide +kernel)
theorem zn_X12_blame_X12 : ∀ w ∈ wsX120, w ∈ wsX12_blame := fun _ h => List.mem_cons_of_mem _ (List.mem_append_right _ h)
theorem zw_X12_blame_1215 : Cond.fieldLink RX12 93 "ShortEnoughModel" "groupOf" "[I" ∈ wsX12_blame := List.mem_of_getElem? (i := 1) (by decide +kernel)
theorem zw_X12_blame_1216 : Cond.fieldLink RX12 135 "ShortEnoughModel" "error" "[J" ∈ wsX12_blame := List.mem_of_getElem? (i := 3) (by decide +kernel)
set_option maxHeartbeats 4000000 in
set_option maxRecDepth 100000 in
theorem zf_X12_blame (l : Launch) (dC : Nat → ClassId) (dI : Nat → Nat → Nat) (h0 : Nat) (p1 : Int32) (p2 : Int32) (a0 : Nat → Nat) (b0 : Nat → Int32) (c0 : Nat → Int64) (k1 : Nat) (f1 : Nat → Int32) (k2 : Nat) (f2 : Nat → Int32) (k3 : Nat) (f3 : Nat → Int32) (k4 : Nat) (f4 : Nat → Int32) (k5 : Nat) (f5 : Nat → Int32) (k6 : Nat) (f6 : Nat → Int32) (k7 : Nat) (f7 : Nat → Int32) (k8 : Nat) (f8 : Nat → Int32) (k9 : Nat) (f9 : Nat → Int32) (k10 : Nat) (f10 : Nat → Int64) (k11 : Nat) (f11 : Nat → Int64) (k12 : Nat) (f12 : Nat → Int64) (k13 : Nat) (f13 : Nat → Int64) (k14 : Nat) (f14 : Nat → Int32) (k15 : Nat) (f15 : Nat → Int64) (k16 : Nat) (f16 : Nat → Int32) (k17 : Nat) (f17 : Nat → Int32) (o : Int64 × Int32 × Int32 × Int32 × (Nat → Int32) × (Nat → Int64) × (Nat → Int64) × (Nat → Int64)) (hfn : fn_X12_blame p1 p2 (b0 33) (c0 34) (b0 38) (b0 41) (b0 42) f1 f2 f3 f4 f5 f6 f7 f8 f9 f10 f11 f12 f13 f14 f15 f16 f17 = some o) (sz : Nat) : zMl l yX12_blame wsX12_blame ({ frames := 6, cells := 0, slots := 0, locals := 154 }) (dC, dI) vwCl [.ref h0, .int p1, .int p2] [(h0, .inr (12, zO a0 b0 c0)), zVi (a0 17) k1 2 f1, zVi (a0 26) k2 28 f2, zVi (a0 27) k3 28 f3, zVi (a0 25) k4 28 f4, zVi (a0 37) k5 14 f5, zVi (a0 39) k6 14 f6, zVi (a0 19) k7 28 f7, zVi (a0 20) k8 28 f8, zVi (a0 21) k9 28 f9, zVl (a0 31) k10 14 f10, zVl (a0 22) k11 28 f11, zVl (a0 23) k12 28 f12, zVl (a0 32) k13 14 f13, zVi (a0 14) k14 8 f14, zVl (a0 40) k15 14 f15, zVi (a0 15) k16 8 f16, zVi (a0 12) k17 2 f17] [(k1, .int), (k2, .int), (k3, .int), (k4, .int), (k5, .int), (k6, .int), (k7, .int), (k8, .int), (k9, .int), (k10, .long), (k11, .long), (k12, .long), (k13, .long), (k14, .int), (k15, .long), (k16, .int), (k17, .int)] (fun r _ => r = o.1) [(h0, .inr (12, zO a0 (zI (zI (zI b0 33 o.2.1) 41 o.2.2.1) 42 o.2.2.2.1) c0)), zVi (a0 17) k1 2 f1, zVi (a0 26) k2 28 f2, zVi (a0 27) k3 28 f3, zVi (a0 25) k4 28 f4, zVi (a0 37) k5 14 f5, zVi (a0 39) k6 14 o.2.2.2.2.1, zVi (a0 19) k7 28 f7, zVi (a0 20) k8 28 f8, zVi (a0 21) k9 28 f9, zVl (a0 31) k10 14 o.2.2.2.2.2.1, zVl (a0 22) k11 28 f11, zVl (a0 23) k12 28 f12, zVl (a0 32) k13 14 o.2.2.2.2.2.2.1, zVi (a0 14) k14 8 f14, zVl (a0 40) k15 14 o.2.2.2.2.2.2.2, zVi (a0 15) k16 8 f16, zVi (a0 12) k17 2 f17] [(k1, .int), (k2, .int), (k3, .int), (k4, .int), (k5, .int), (k6, .int), (k7, .int), (k8, .int), (k9, .int), (k10, .long), (k11, .long), (k12, .long), (k13, .long), (k14, .int), (k15, .long), (k16, .int), (k17, .int)] sz := by
  refine zgol (cc := cX12_blame) (maxL := 5) (ret := (some .long)) (C0 := RX12) (lv0 := [(0, .ref h0), (1, .int p1), (2, .int p2)]) zpl_X12 rfl rfl rfl (Nat.le_of_ble_eq_true rfl) ?_
  intro p e s m below meth c A ls Q hx hb hr hts hown hlocks hml hP hK hD hA hS hl hQ
  unfold fn_X12_blame at hfn
  refine lv_aload_n hx hb dX12_blame_0 rfl (lv_at hl 0 rfl) ?_
  refine lv_iload_n hx hb dX12_blame_1 rfl (lv_at hl 1 rfl) ?_
  obtain ⟨o_1, hqo_1, hfn⟩ := zb_s hfn
  refine zcVb (ci := 12) (rest := []) (pc' := 5) (ws' := [(h0, .inr (12, zO a0 b0 c0)), zVi (a0 17) k1 2 f1, zVi (a0 26) k2 28 f2, zVi (a0 27) k3 28 f3, zVi (a0 25) k4 28 f4, zVi (a0 37) k5 14 f5, zVi (a0 39) k6 14 f6, zVi (a0 19) k7 28 f7, zVi (a0 20) k8 28 f8, zVi (a0 21) k9 28 f9, zVl (a0 31) k10 14 f10, zVl (a0 22) k11 28 f11, zVl (a0 23) k12 28 f12, zVl (a0 32) k13 14 f13, zVi (a0 14) k14 8 f14, zVl (a0 40) k15 14 f15, zVi (a0 15) k16 8 f16, zVi (a0 12) k17 2 f17]) hP hK hD hS hA ⟨hx, hb, hml, hown, hts⟩ (zf_X12_isAnswer l dC dI h0 p1 a0 b0 c0 k1 f1 k2 f2 o_1 hqo_1 s.heap.size) (cwV 1 hts gX12_blame_X12_isAnswer rfl rfl rfl zhd_X12_isAnswer ⟨Nat.le_of_ble_eq_true rfl, Nat.le_of_ble_eq_true rfl⟩) [0, 1, 2] rfl (of_decide_eq_true rfl) [0, 1] rfl rfl rfl rfl hl.1 rfl (Nat.le_of_ble_eq_true rfl) dX12_blame_2 ⟨Nat.le_of_ble_eq_true rfl, Nat.le_of_ble_eq_true rfl⟩ [some 0, some 1, some 2] (of_decide_eq_true rfl) (of_decide_eq_true rfl) rfl rfl rfl (fun H locs hw_4n hP hD hS => ?_)
  refine lv_if_eq (tgt := 36) hx hb dX12_blame_5 (of_decide_eq_true rfl) (fun c_5 => ?_) (fun c_5 => ?_)
  · have hfn := (if_pos c_5).symm.trans hfn
    refine lv_ldc2 (v := (-1000000000000000)) hx hb hown (hts (.constantLong RX12 381 (-1000000000000000)) zw_X12_blame_1213) dX12_blame_36 ?_
    have ho := Option.some.inj hfn
    subst ho
    exact zrl hx hb hr hK hP hD hS hQ rfl hlocks dX12_blame_39
  have hfn := (if_neg c_5).symm.trans hfn
  refine lv_aload_n hx hb dX12_blame_8 rfl (lv_at hl 0 rfl) ?_
  refine lv_iload_n hx hb dX12_blame_9 rfl (lv_at hl 2 rfl) ?_
  obtain ⟨o_6, hqo_6, hfn⟩ := zb_s hfn
  refine zcVb (ci := 12) (rest := []) (pc' := 13) (ws' := [(h0, .inr (12, zO a0 b0 c0)), zVi (a0 17) k1 2 f1, zVi (a0 26) k2 28 f2, zVi (a0 27) k3 28 f3, zVi (a0 25) k4 28 f4, zVi (a0 37) k5 14 f5, zVi (a0 39) k6 14 f6, zVi (a0 19) k7 28 f7, zVi (a0 20) k8 28 f8, zVi (a0 21) k9 28 f9, zVl (a0 31) k10 14 f10, zVl (a0 22) k11 28 f11, zVl (a0 23) k12 28 f12, zVl (a0 32) k13 14 f13, zVi (a0 14) k14 8 f14, zVl (a0 40) k15 14 f15, zVi (a0 15) k16 8 f16, zVi (a0 12) k17 2 f17]) hP hK hD hS hA ⟨hx, hb, hml, hown, hts⟩ (zf_X12_isNumber l dC dI h0 p2 a0 b0 c0 k1 f1 o_6 hqo_6 H.size) (cwV 1 hts gX12_blame_X12_isNumber rfl rfl rfl zhd_X12_isNumber ⟨Nat.le_of_ble_eq_true rfl, Nat.le_of_ble_eq_true rfl⟩) [0, 1] rfl (of_decide_eq_true rfl) [0] rfl rfl rfl rfl hl.1 rfl (Nat.le_of_ble_eq_true rfl) dX12_blame_10 ⟨Nat.le_of_ble_eq_true rfl, Nat.le_of_ble_eq_true rfl⟩ [some 0, some 1] (of_decide_eq_true rfl) (of_decide_eq_true rfl) rfl rfl rfl (fun H locs hw_9n hP hD hS => ?_)
  refine lv_if_eq (tgt := 36) hx hb dX12_blame_13 (of_decide_eq_true rfl) (fun c_10 => ?_) (fun c_10 => ?_)
  · have hfn := (if_pos c_10).symm.trans hfn
    refine lv_ldc2 (v := (-1000000000000000)) hx hb hown (hts (.constantLong RX12 381 (-1000000000000000)) zw_X12_blame_1213) dX12_blame_36 ?_
    have ho := Option.some.inj hfn
    subst ho
    exact zrl hx hb hr hK hP hD hS hQ rfl hlocks dX12_blame_39
  have hfn := (if_neg c_10).symm.trans hfn
  refine lv_aload_n hx hb dX12_blame_16 rfl (lv_at hl 0 rfl) ?_
  refine lv_aload_n hx hb dX12_blame_17 rfl (lv_at hl 0 rfl) ?_
  refine va_get (D := (dC, dI)) (ci := 12) (v := .ref (a0 27)) (C := RX12) (T := TX12) (N := 67) hx hb hts zn_X12_blame_X12 hown hK hP 0 rfl rfl 27 (of_decide_eq_true rfl) (hts (.fieldLink RX12 93 "ShortEnoughModel" "groupOf" "[I") zw_X12_blame_1215) (fun _ h9 => h9) rfl dX12_blame_18 ?_
  refine lv_iload_n hx hb dX12_blame_21 rfl (lv_at hl 2 rfl) ?_
  obtain ⟨h_11, hfn⟩ := zg_s hfn
  refine va_iald hx hb hK hP 3 2 rfl rfl h_11 dX12_blame_22 ?_
  obtain ⟨o_12, hqo_12, hfn⟩ := zb_s hfn
  refine zcVb (ci := 12) (rest := []) (pc' := 26) (ws' := [(h0, .inr (12, zO a0 b0 c0)), zVi (a0 17) k1 2 f1, zVi (a0 26) k2 28 f2, zVi (a0 27) k3 28 f3, zVi (a0 25) k4 28 f4, zVi (a0 37) k5 14 f5, zVi (a0 39) k6 14 f6, zVi (a0 19) k7 28 f7, zVi (a0 20) k8 28 f8, zVi (a0 21) k9 28 f9, zVl (a0 31) k10 14 f10, zVl (a0 22) k11 28 f11, zVl (a0 23) k12 28 f12, zVl (a0 32) k13 14 f13, zVi (a0 14) k14 8 f14, zVl (a0 40) k15 14 f15, zVi (a0 15) k16 8 f16, zVi (a0 12) k17 2 f17]) hP hK hD hS hA ⟨hx, hb, hml, hown, hts⟩ (zf_X12_isFree l dC dI h0 (f3 p2.toNatClampNeg) a0 b0 c0 k1 f1 k3 f3 k4 f4 o_12 hqo_12 H.size) (cwV 1 hts gX12_blame_X12_isFree rfl rfl rfl zhd_X12_isFree ⟨Nat.le_of_ble_eq_true rfl, Nat.le_of_ble_eq_true rfl⟩) [0, 1, 3, 4] rfl (of_decide_eq_true rfl) [0, 2, 3] rfl rfl rfl rfl hl.1 rfl (Nat.le_of_ble_eq_true rfl) dX12_blame_23 ⟨Nat.le_of_ble_eq_true rfl, Nat.le_of_ble_eq_true rfl⟩ [some 0, some 1, none, some 2, some 3] (of_decide_eq_true rfl) (of_decide_eq_true rfl) rfl rfl rfl (fun H locs hw_15n hP hD hS => ?_)
  refine lv_if_eq (tgt := 36) hx hb dX12_blame_26 (of_decide_eq_true rfl) (fun c_16 => ?_) (fun c_16 => ?_)
  · have hfn := (if_pos c_16).symm.trans hfn
    refine lv_ldc2 (v := (-1000000000000000)) hx hb hown (hts (.constantLong RX12 381 (-1000000000000000)) zw_X12_blame_1213) dX12_blame_36 ?_
    have ho := Option.some.inj hfn
    subst ho
    exact zrl hx hb hr hK hP hD hS hQ rfl hlocks dX12_blame_39
  have hfn := (if_neg c_16).symm.trans hfn
  refine lv_aload_n hx hb dX12_blame_29 rfl (lv_at hl 0 rfl) ?_
  obtain ⟨o_17, hqo_17, hfn⟩ := zb_s hfn
  refine zcVb (ci := 12) (rest := []) (pc' := 33) (ws' := [(h0, .inr (12, zO a0 (zI (zI (zI b0 33 o_17.2.1) 41 o_17.2.2.1) 42 o_17.2.2.2.1) c0)), zVi (a0 17) k1 2 f1, zVi (a0 26) k2 28 f2, zVi (a0 27) k3 28 f3, zVi (a0 25) k4 28 f4, zVi (a0 37) k5 14 f5, zVi (a0 39) k6 14 o_17.2.2.2.2.1, zVi (a0 19) k7 28 f7, zVi (a0 20) k8 28 f8, zVi (a0 21) k9 28 f9, zVl (a0 31) k10 14 o_17.2.2.2.2.2.1, zVl (a0 22) k11 28 f11, zVl (a0 23) k12 28 f12, zVl (a0 32) k13 14 o_17.2.2.2.2.2.2.1, zVi (a0 14) k14 8 f14, zVl (a0 40) k15 14 o_17.2.2.2.2.2.2.2, zVi (a0 15) k16 8 f16, zVi (a0 12) k17 2 f17]) hP hK hD hS hA ⟨hx, hb, hml, hown, hts⟩ (zf_X12_handPasses l dC dI h0 a0 b0 c0 k1 f1 k5 f5 k6 f6 k7 f7 k8 f8 k9 f9 k10 f10 k11 f11 k12 f12 k13 f13 k14 f14 k15 f15 k16 f16 k2 f2 o_17 hqo_17 H.size) (cwV 0 hts gX12_blame_X12_handPasses rfl rfl rfl zhd_X12_handPasses ⟨Nat.le_of_ble_eq_true rfl, Nat.le_of_ble_eq_true rfl⟩) [0, 1, 5, 6, 7, 8, 9, 10, 11, 12, 13, 14, 15, 16, 2] rfl (of_decide_eq_true rfl) [0, 4, 5, 6, 7, 8, 9, 10, 11, 12, 13, 14, 15, 1] rfl rfl rfl rfl hl.1 rfl (Nat.le_of_ble_eq_true rfl) dX12_blame_30 ⟨Nat.le_of_ble_eq_true rfl, Nat.le_of_ble_eq_true rfl⟩ [some 0, some 1, some 14, none, none, some 2, some 3, some 4, some 5, some 6, some 7, some 8, some 9, some 10, some 11, some 12, some 13] (of_decide_eq_true rfl) (of_decide_eq_true rfl) rfl rfl rfl (fun H locs hw_20n hP hD hS => ?_)
  refine lv_if_ne (tgt := 40) hx hb dX12_blame_33 (of_decide_eq_true rfl) (fun c_21 => ?_) (fun c_21 => ?_)
  · have hfn := (if_neg c_21).symm.trans hfn
    refine lv_aload_n hx hb dX12_blame_40 rfl (lv_at hl 0 rfl) ?_
    refine va_get (D := (dC, dI)) (ci := 12) (v := .ref (a0 40)) (C := RX12) (T := TX12) (N := 67) hx hb hts zn_X12_blame_X12 hown hK hP 0 rfl rfl 40 (of_decide_eq_true rfl) (hts (.fieldLink RX12 135 "ShortEnoughModel" "error" "[J") zw_X12_blame_1216) (fun _ h9 => h9) rfl dX12_blame_41 ?_
    refine lv_iload_n hx hb dX12_blame_44 rfl (lv_at hl 1 rfl) ?_
    obtain ⟨h_22, hfn⟩ := zg_s hfn
    refine va_lald hx hb hK hP 15 14 rfl rfl h_22 dX12_blame_45 ?_
    refine lv_lstore_n (lv' := [(3, .long (o_17.2.2.2.2.2.2.2 p1.toNatClampNeg)), (0, .ref h0), (1, .int p1), (2, .int p2)]) hx hb dX12_blame_46 rfl hl (of_decide_eq_true rfl) rfl (fun ls hl => ?_)
    refine lv_aload_n hx hb dX12_blame_47 rfl (lv_at hl 1 rfl) ?_
    refine lv_aload_n hx hb dX12_blame_48 rfl (lv_at hl 1 rfl) ?_
    refine va_get (D := (dC, dI)) (ci := 12) (v := .ref (a0 27)) (C := RX12) (T := TX12) (N := 67) hx hb hts zn_X12_blame_X12 hown hK hP 0 rfl rfl 27 (of_decide_eq_true rfl) (hts (.fieldLink RX12 93 "ShortEnoughModel" "groupOf" "[I") zw_X12_blame_1215) (fun _ h9 => h9) rfl dX12_blame_49 ?_
    refine lv_iload_n hx hb dX12_blame_52 rfl (lv_at hl 3 rfl) ?_
    refine va_iald hx hb hK hP 3 2 rfl rfl h_11 dX12_blame_53 ?_
    refine lv_aload_n hx hb dX12_blame_54 rfl (lv_at hl 1 rfl) ?_
    obtain ⟨o_23, hqo_23, hfn⟩ := zb_s hfn
    refine zcVi (ci := 12) (rest := [.int (f3 p2.toNatClampNeg), .ref h0]) (pc' := 58) (ws' := [(h0, .inr (12, zO a0 (zI (zI (zI b0 33 o_17.2.1) 41 o_17.2.2.1) 42 o_17.2.2.2.1) c0)), zVi (a0 17) k1 2 f1, zVi (a0 26) k2 28 f2, zVi (a0 27) k3 28 f3, zVi (a0 25) k4 28 f4, zVi (a0 37) k5 14 f5, zVi (a0 39) k6 14 o_17.2.2.2.2.1, zVi (a0 19) k7 28 f7, zVi (a0 20) k8 28 f8, zVi (a0 21) k9 28 f9, zVl (a0 31) k10 14 o_17.2.2.2.2.2.1, zVl (a0 22) k11 28 f11, zVl (a0 23) k12 28 f12, zVl (a0 32) k13 14 o_17.2.2.2.2.2.2.1, zVi (a0 14) k14 8 f14, zVl (a0 40) k15 14 o_17.2.2.2.2.2.2.2, zVi (a0 15) k16 8 f16, zVi (a0 12) k17 2 f17]) hP hK hD hS hA ⟨hx, hb, hml, hown, hts⟩ (zf_X12_finest l dC dI h0 a0 (zI (zI (zI b0 33 o_17.2.1) 41 o_17.2.2.1) 42 o_17.2.2.2.1) c0 k17 f17 k14 f14 o_23 hqo_23 H.size) (cwV 0 hts gX12_blame_X12_finest rfl rfl rfl zhd_X12_finest ⟨Nat.le_of_ble_eq_true rfl, Nat.le_of_ble_eq_true rfl⟩) [0, 17, 14] rfl (of_decide_eq_true rfl) [16, 13] rfl rfl rfl rfl hl.1 rfl (Nat.le_of_ble_eq_true rfl) dX12_blame_55 ⟨Nat.le_of_ble_eq_true rfl, Nat.le_of_ble_eq_true rfl⟩ [some 0, none, none, none, none, none, none, none, none, none, none, none, none, none, some 2, none, none, some 1] (of_decide_eq_true rfl) (of_decide_eq_true rfl) rfl rfl rfl (fun H locs hP hD hS => ?_)
    obtain ⟨o_27, hqo_27, hfn⟩ := zb_s hfn
    refine zcVv (ci := 12) (rest := []) (pc' := 61) (ws' := [(h0, .inr (12, zO a0 (zI (zI (zI b0 33 o_17.2.1) 41 o_17.2.2.1) 42 o_17.2.2.2.1) c0)), zVi (a0 17) k1 2 f1, zVi (a0 26) k2 28 f2, zVi (a0 27) k3 28 f3, zVi (a0 25) k4 28 f4, zVi (a0 37) k5 14 f5, zVi (a0 39) k6 14 o_27, zVi (a0 19) k7 28 f7, zVi (a0 20) k8 28 f8, zVi (a0 21) k9 28 f9, zVl (a0 31) k10 14 o_17.2.2.2.2.2.1, zVl (a0 22) k11 28 f11, zVl (a0 23) k12 28 f12, zVl (a0 32) k13 14 o_17.2.2.2.2.2.2.1, zVi (a0 14) k14 8 f14, zVl (a0 40) k15 14 o_17.2.2.2.2.2.2.2, zVi (a0 15) k16 8 f16, zVi (a0 12) k17 2 f17]) hP hK hD hS hA ⟨hx, hb, hml, hown, hts⟩ (zf_X12_triesGroup l dC dI h0 (f3 p2.toNatClampNeg) o_23 a0 (zI (zI (zI b0 33 o_17.2.1) 41 o_17.2.2.1) 42 o_17.2.2.2.1) c0 k1 f1 k3 f3 k6 o_17.2.2.2.2.1 o_27 hqo_27 H.size) (cwV 2 hts gX12_blame_X12_triesGroup rfl rfl rfl zhd_X12_triesGroup ⟨Nat.le_of_ble_eq_true rfl, Nat.le_of_ble_eq_true rfl⟩) [0, 1, 3, 6] rfl (of_decide_eq_true rfl) [0, 2, 5] rfl rfl rfl rfl hl.1 rfl (Nat.le_of_ble_eq_true rfl) dX12_blame_58 ⟨Nat.le_of_ble_eq_true rfl, Nat.le_of_ble_eq_true rfl⟩ [some 0, some 1, none, some 2, none, none, some 3] (of_decide_eq_true rfl) (of_decide_eq_true rfl) rfl rfl rfl (fun H locs hP hD hS => ?_)
    refine lv_aload_n hx hb dX12_blame_61 rfl (lv_at hl 1 rfl) ?_
    obtain ⟨o_31, hqo_31, hfn⟩ := zb_s hfn
    refine zcVb (ci := 12) (rest := []) (pc' := 65) (ws' := [(h0, .inr (12, zO a0 (zI (zI (zI b0 33 o_17.2.1) 41 o_31.2.1) 42 o_31.2.2.1) c0)), zVi (a0 17) k1 2 f1, zVi (a0 26) k2 28 f2, zVi (a0 27) k3 28 f3, zVi (a0 25) k4 28 f4, zVi (a0 37) k5 14 f5, zVi (a0 39) k6 14 o_27, zVi (a0 19) k7 28 f7, zVi (a0 20) k8 28 f8, zVi (a0 21) k9 28 f9, zVl (a0 31) k10 14 o_31.2.2.2.1, zVl (a0 22) k11 28 f11, zVl (a0 23) k12 28 f12, zVl (a0 32) k13 14 o_31.2.2.2.2.1, zVi (a0 14) k14 8 f14, zVl (a0 40) k15 14 o_31.2.2.2.2.2, zVi (a0 15) k16 8 f16, zVi (a0 12) k17 2 f17]) hP hK hD hS hA ⟨hx, hb, hml, hown, hts⟩ (zf_X12_passes l dC dI h0 a0 (zI (zI (zI b0 33 o_17.2.1) 41 o_17.2.2.1) 42 o_17.2.2.2.1) c0 k1 f1 k7 f7 k8 f8 k9 f9 k10 o_17.2.2.2.2.2.1 k11 f11 k12 f12 k13 o_17.2.2.2.2.2.2.1 k6 o_27 k14 f14 k15 o_17.2.2.2.2.2.2.2 k16 f16 k2 f2 o_31 hqo_31 H.size) (cwV 0 hts gX12_blame_X12_passes rfl rfl rfl zhd_X12_passes ⟨Nat.le_of_ble_eq_true rfl, Nat.le_of_ble_eq_true rfl⟩) [0, 1, 7, 8, 9, 10, 11, 12, 13, 6, 14, 15, 16, 2] rfl (of_decide_eq_true rfl) [0, 6, 7, 8, 9, 10, 11, 12, 5, 13, 14, 15, 1] rfl rfl rfl rfl hl.1 rfl (Nat.le_of_ble_eq_true rfl) dX12_blame_62 ⟨Nat.le_of_ble_eq_true rfl, Nat.le_of_ble_eq_true rfl⟩ [some 0, some 1, some 13, none, none, none, some 9, some 2, some 3, some 4, some 5, some 6, some 7, some 8, some 10, some 11, some 12] (of_decide_eq_true rfl) (of_decide_eq_true rfl) rfl rfl rfl (fun H locs hw_34n hP hD hS => ?_)
    refine lv_if_eq (tgt := 79) hx hb dX12_blame_65 (of_decide_eq_true rfl) (fun c_35 => ?_) (fun c_35 => ?_)
    · have hfn := (if_pos c_35).symm.trans hfn
      refine lv_ldc2 (v := (-1000000000000000)) hx hb hown (hts (.constantLong RX12 381 (-1000000000000000)) zw_X12_blame_1213) dX12_blame_79 ?_
      have ho := Option.some.inj hfn
      subst ho
      exact zrl hx hb hr hK hP hD hS hQ rfl hlocks dX12_blame_82
    have hfn := (if_neg c_35).symm.trans hfn
    refine lv_lload_n hx hb dX12_blame_68 rfl (lv_at hl 0 rfl) ?_
    refine lv_aload_n hx hb dX12_blame_69 rfl (lv_at hl 1 rfl) ?_
    refine va_get (D := (dC, dI)) (ci := 12) (v := .ref (a0 40)) (C := RX12) (T := TX12) (N := 67) hx hb hts zn_X12_blame_X12 hown hK hP 0 rfl rfl 40 (of_decide_eq_true rfl) (hts (.fieldLink RX12 135 "ShortEnoughModel" "error" "[J") zw_X12_blame_1216) (fun _ h9 => h9) rfl dX12_blame_70 ?_
    refine lv_iload_n hx hb dX12_blame_73 rfl (lv_at hl 2 rfl) ?_
    refine va_lald hx hb hK hP 15 14 rfl rfl h_22 dX12_blame_74 ?_
    refine lv_lsub hx hb dX12_blame_75 ?_
    refine lv_topl (fun x_36 ex_36 => ?_)
    have hfn := zn_s hfn ex_36
    refine lv_goto (tgt := 82) hx hb dX12_blame_76 (of_decide_eq_true rfl) ?_
    have ho := Option.some.inj hfn
    subst ho
    exact zrl hx hb hr hK hP hD hS hQ rfl hlocks dX12_blame_82
  have hfn := (if_pos c_21).symm.trans hfn
  refine lv_ldc2 (v := (-1000000000000000)) hx hb hown (hts (.constantLong RX12 381 (-1000000000000000)) zw_X12_blame_1213) dX12_blame_36 ?_
  have ho := Option.some.inj hfn
  subst ho
  exact zrl hx hb hr hK hP hD hS hQ rfl hlocks dX12_blame_39
theorem zn_X12_canSearch_X12 : ∀ w ∈ wsX120, w ∈ wsX12_canSearch := fun _ h => List.mem_cons_of_mem _ (List.mem_append_right _ h)
theorem zw_X12_canSearch_1218 : Cond.fieldLink RX12 112 "ShortEnoughModel" "wideNumber" "I" ∈ wsX12_canSearch := List.mem_of_getElem? (i := 1) (by decide +kernel)
theorem zw_X12_canSearch_1219 : Cond.fieldLink RX12 62 "ShortEnoughModel" "numbers" "[I" ∈ wsX12_canSearch := List.mem_of_getElem? (i := 2) (by decide +kernel)
theorem zw_X12_canSearch_1220 : Cond.fieldLink RX12 128 "ShortEnoughModel" "hasHand" "Z" ∈ wsX12_canSearch := List.mem_of_getElem? (i := 3) (by decide +kernel)
theorem zw_X12_canSearch_1221 : Cond.fieldLink RX12 103 "ShortEnoughModel" "freeMany" "I" ∈ wsX12_canSearch := List.mem_of_getElem? (i := 4) (by decide +kernel)
set_option maxHeartbeats 4000000 in
set_option maxRecDepth 100000 in
theorem zf_X12_canSearch (l : Launch) (dC : Nat → ClassId) (dI : Nat → Nat → Nat) (h0 : Nat) (a0 : Nat → Nat) (b0 : Nat → Int32) (c0 : Nat → Int64) (k1 : Nat) (f1 : Nat → Int32) (k2 : Nat) (f2 : Nat → Int32) (k3 : Nat) (f3 : Nat → Int32) (k4 : Nat) (f4 : Nat → Int32) (o : Int32 × Int32 × Int32 × (Nat → Int32)) (hfn : fn_X12_canSearch (b0 38) f1 f2 f3 f4 = some o) (sz : Nat) : zMi l yX12_canSearch wsX12_canSearch ({ frames := 2, cells := 0, slots := 0, locals := 43 }) (dC, dI) vwCl [.ref h0] [(h0, .inr (12, zO a0 b0 c0)), zVi (a0 17) k1 2 f1, zVi (a0 27) k2 28 f2, zVi (a0 25) k3 28 f3, zVi (a0 29) k4 14 f4] [(k1, .int), (k2, .int), (k3, .int), (k4, .int)] (fun r _ => r = o.1 ∧ narrow .boolean (.int o.1) = .int o.1) [(h0, .inr (12, zO a0 (zI (zI b0 30 o.2.1) 33 o.2.2.1) c0)), zVi (a0 17) k1 2 f1, zVi (a0 27) k2 28 f2, zVi (a0 25) k3 28 f3, zVi (a0 29) k4 14 o.2.2.2] [(k1, .int), (k2, .int), (k3, .int), (k4, .int)] sz := by
  refine zgoi (cc := cX12_canSearch) (maxL := 1) (ret := (some .boolean)) (C0 := RX12) (lv0 := [(0, .ref h0)]) zpl_X12 rfl rfl rfl (Nat.le_of_ble_eq_true rfl) ?_
  intro p e s m below meth c A ls Q hx hb hr hts hown hlocks hml hP hK hD hA hS hl hQ
  unfold fn_X12_canSearch at hfn
  refine lv_aload_n hx hb dX12_canSearch_0 rfl (lv_at hl 0 rfl) ?_
  obtain ⟨o_1, hqo_1, hfn⟩ := zb_s hfn
  refine zcVv (ci := 12) (rest := []) (pc' := 4) (ws' := [(h0, .inr (12, zO a0 (zI b0 30 o_1.1) c0)), zVi (a0 17) k1 2 f1, zVi (a0 27) k2 28 f2, zVi (a0 25) k3 28 f3, zVi (a0 29) k4 14 o_1.2]) hP hK hD hS hA ⟨hx, hb, hml, hown, hts⟩ (zf_X12_laysFree l dC dI h0 a0 b0 c0 k1 f1 k2 f2 k3 f3 k4 f4 o_1 hqo_1 s.heap.size) (cwV 0 hts gX12_canSearch_X12_laysFree rfl rfl rfl zhd_X12_laysFree ⟨Nat.le_of_ble_eq_true rfl, Nat.le_of_ble_eq_true rfl⟩) [0, 1, 2, 3, 4] rfl (of_decide_eq_true rfl) [0, 1, 2, 3] rfl rfl rfl rfl hl.1 rfl (Nat.le_of_ble_eq_true rfl) dX12_canSearch_1 ⟨Nat.le_of_ble_eq_true rfl, Nat.le_of_ble_eq_true rfl⟩ [some 0, some 1, some 2, some 3, some 4] (of_decide_eq_true rfl) (of_decide_eq_true rfl) rfl rfl rfl (fun H locs hP hD hS => ?_)
  refine lv_aload_n hx hb dX12_canSearch_4 rfl (lv_at hl 0 rfl) ?_
  refine lv_iconst (v := (-1)) hx hb dX12_canSearch_5 zci_m1 ?_
  refine va_put (D := (dC, dI)) (ci := 12) (v := .int (-1)) (ty := .int) (C := RX12) (T := TX12) (N := 67) hx hb hts zn_X12_canSearch_X12 tyX12 tyX12_ok nmX12 hown hK hP hD hS 0 rfl rfl 33 (of_decide_eq_true rfl) (hts (.fieldLink RX12 112 "ShortEnoughModel" "wideNumber" "I") zw_X12_canSearch_1218) (fun _ h9 => h9) rfl (tyX12_ok 33 (of_decide_eq_true rfl)) rfl rfl (Nat.le_of_ble_eq_true rfl) dX12_canSearch_6 (fun H locs hP hD hS => ?_)
  have hP : va_P (dC, dI) vwCl [(h0, .inr (12, zO a0 (zI (zI b0 30 o_1.1) 33 (-1)) c0)), zVi (a0 17) k1 2 f1, zVi (a0 27) k2 28 f2, zVi (a0 25) k3 28 f3, zVi (a0 29) k4 14 o_1.2] H := hP
  have hD := zDW hD hP rfl
  refine lv_aload_n hx hb dX12_canSearch_9 rfl (lv_at hl 0 rfl) ?_
  refine va_get (D := (dC, dI)) (ci := 12) (v := .ref (a0 17)) (C := RX12) (T := TX12) (N := 67) hx hb hts zn_X12_canSearch_X12 hown hK hP 0 rfl rfl 17 (of_decide_eq_true rfl) (hts (.fieldLink RX12 62 "ShortEnoughModel" "numbers" "[I") zw_X12_canSearch_1219) (fun _ h9 => h9) rfl dX12_canSearch_10 ?_
  refine lv_iconst (v := 0) hx hb dX12_canSearch_13 zci_0 ?_
  refine va_iald hx hb hK hP 1 0 rfl rfl (zv_in (by decide +kernel)) dX12_canSearch_14 ?_
  refine lv_if_le (tgt := 37) hx hb dX12_canSearch_15 (of_decide_eq_true rfl) (fun c_5 => ?_) (fun c_5 => ?_)
  · have hfn := (if_pos c_5).symm.trans hfn
    refine lv_iconst (v := 0) hx hb dX12_canSearch_37 zci_0 ?_
    have ho := Option.some.inj hfn
    subst ho
    exact zrz hx hb hr rfl hK hP hD hS hQ ⟨rfl, zB0⟩ hlocks dX12_canSearch_38
  have hfn := (if_neg c_5).symm.trans hfn
  refine lv_aload_n hx hb dX12_canSearch_18 rfl (lv_at hl 0 rfl) ?_
  refine va_get (D := (dC, dI)) (ci := 12) (v := .int (b0 38)) (C := RX12) (T := TX12) (N := 67) hx hb hts zn_X12_canSearch_X12 hown hK hP 0 rfl rfl 38 (of_decide_eq_true rfl) (hts (.fieldLink RX12 128 "ShortEnoughModel" "hasHand" "Z") zw_X12_canSearch_1220) (fun _ h9 => h9) rfl dX12_canSearch_19 ?_
  refine lv_if_eq (tgt := 37) hx hb dX12_canSearch_22 (of_decide_eq_true rfl) (fun c_6 => ?_) (fun c_6 => ?_)
  · have hfn := (if_pos c_6).symm.trans hfn
    refine lv_iconst (v := 0) hx hb dX12_canSearch_37 zci_0 ?_
    have ho := Option.some.inj hfn
    subst ho
    exact zrz hx hb hr rfl hK hP hD hS hQ ⟨rfl, zB0⟩ hlocks dX12_canSearch_38
  have hfn := (if_neg c_6).symm.trans hfn
  refine lv_aload_n hx hb dX12_canSearch_25 rfl (lv_at hl 0 rfl) ?_
  refine va_get (D := (dC, dI)) (ci := 12) (v := .int o_1.1) (C := RX12) (T := TX12) (N := 67) hx hb hts zn_X12_canSearch_X12 hown hK hP 0 rfl rfl 30 (of_decide_eq_true rfl) (hts (.fieldLink RX12 103 "ShortEnoughModel" "freeMany" "I") zw_X12_canSearch_1221) (fun _ h9 => h9) rfl dX12_canSearch_26 ?_
  refine lv_iconst (v := 5) hx hb dX12_canSearch_29 zci_5 ?_
  refine lv_icmp_gt (tgt := 37) hx hb dX12_canSearch_30 (of_decide_eq_true rfl) (fun c_7 => ?_) (fun c_7 => ?_)
  · have hfn := (if_pos c_7).symm.trans hfn
    refine lv_iconst (v := 0) hx hb dX12_canSearch_37 zci_0 ?_
    have ho := Option.some.inj hfn
    subst ho
    exact zrz hx hb hr rfl hK hP hD hS hQ ⟨rfl, zB0⟩ hlocks dX12_canSearch_38
  have hfn := (if_neg c_7).symm.trans hfn
  refine lv_iconst (v := 1) hx hb dX12_canSearch_33 zci_1 ?_
  refine lv_goto (tgt := 38) hx hb dX12_canSearch_34 (of_decide_eq_true rfl) ?_
  have ho := Option.some.inj hfn
  subst ho
  exact zrz hx hb hr rfl hK hP hD hS hQ ⟨rfl, zB1⟩ hlocks dX12_canSearch_38
theorem zn_X12_allChoices_X12 : ∀ w ∈ wsX120, w ∈ wsX12_allChoices := fun _ h => List.mem_cons_of_mem _ (List.mem_append_right _ h)
theorem zw_X12_allChoices_1223 : Cond.fieldLink RX12 103 "ShortEnoughModel" "freeMany" "I" ∈ wsX12_allChoices := List.mem_of_getElem? (i := 1) (by decide +kernel)
theorem zw_X12_allChoices_1224 : Cond.fieldLink RX12 47 "ShortEnoughModel" "formats" "[I" ∈ wsX12_allChoices := List.mem_of_getElem? (i := 2) (by decide +kernel)
set_option maxHeartbeats 4000000 in
set_option maxRecDepth 100000 in
theorem zf_X12_allChoices (l : Launch) (dC : Nat → ClassId) (dI : Nat → Nat → Nat) (h0 : Nat) (a0 : Nat → Nat) (b0 : Nat → Int32) (c0 : Nat → Int64) (k1 : Nat) (f1 : Nat → Int32) (o : Int32) (hfn : fn_X12_allChoices (b0 30) f1 = some o) (sz : Nat) : zMi l yX12_allChoices wsX12_allChoices ({ frames := 0, cells := 0, slots := 0, locals := 0 }) (dC, dI) vwCl [.ref h0] [(h0, .inr (12, zO a0 b0 c0)), zVi (a0 12) k1 2 f1] [(k1, .int)] (fun r _ => r = o) [(h0, .inr (12, zO a0 b0 c0)), zVi (a0 12) k1 2 f1] [(k1, .int)] sz := by
  refine zgoi (cc := cX12_allChoices) (maxL := 3) (ret := (some .int)) (C0 := RX12) (lv0 := [(0, .ref h0)]) zpl_X12 rfl rfl rfl (Nat.le_of_ble_eq_true rfl) ?_
  intro p e s m below meth c A ls Q hx hb hr hts hown hlocks hml hP hK hD hA hS hl hQ
  unfold fn_X12_allChoices at hfn
  refine lv_iconst (v := 1) hx hb dX12_allChoices_0 zci_1 ?_
  refine lv_istore_n (lv' := [(1, .int 1), (0, .ref h0)]) hx hb dX12_allChoices_1 rfl hl (of_decide_eq_true rfl) rfl (fun ls hl => ?_)
  refine lv_iconst (v := 0) hx hb dX12_allChoices_2 zci_0 ?_
  refine lv_istore_n (lv' := [(2, .int 0), (1, .int 1), (0, .ref h0)]) hx hb dX12_allChoices_3 rfl hl (of_decide_eq_true rfl) rfl (fun ls hl => ?_)
  obtain ⟨bd_1, ebd_1, hfn⟩ := zl_g hfn
  have lp_1 : ∀ (n : Nat) (s_1 : Int32 × Int32) (H : Heap) (locs : List Loc) (ls : Array Slot), zl bd_1 n s_1 = some o → va_P (dC, dI) vwCl [(h0, .inr (12, zO a0 b0 c0)), zVi (a0 12) k1 2 f1] H → va_D A [(h0, .inr (12, zO a0 b0 c0)), zVi (a0 12) k1 2 f1] → va_S A s.heap H locs → lv_has ls 3 [(2, .int s_1.2), (1, .int s_1.1), (0, .ref h0)] → W p l e (headSpec wsX12_allChoices ({ frames := 0, cells := 0, slots := 0, locals := 0 })).room s m ([.ref h0] : List Value).toArray below meth c H locs 0 0 Q (F0 m 4 ls []) := by
    intro n
    induction n with
    | zero => exact fun _ _ _ _ hfn => (zl_0 hfn).elim
    | succ n ih_1 =>
      intro s_1 H locs ls hfn hP hD hS hl
      have hfn := zl_s ebd_1 hfn
      refine lv_iload_n hx hb dX12_allChoices_4 rfl (lv_at hl 0 rfl) ?_
      refine lv_aload_n hx hb dX12_allChoices_5 rfl (lv_at hl 2 rfl) ?_
      refine va_get (D := (dC, dI)) (ci := 12) (v := .int (b0 30)) (C := RX12) (T := TX12) (N := 67) hx hb hts zn_X12_allChoices_X12 hown hK hP 0 rfl rfl 30 (of_decide_eq_true rfl) (hts (.fieldLink RX12 103 "ShortEnoughModel" "freeMany" "I") zw_X12_allChoices_1223) (fun _ h9 => h9) rfl dX12_allChoices_6 ?_
      refine lv_icmp_ge (tgt := 27) hx hb dX12_allChoices_9 (of_decide_eq_true rfl) (fun c_2 => ?_) (fun c_2 => ?_)
      · have hfn := (if_pos c_2).symm.trans hfn
        refine lv_iload_n hx hb dX12_allChoices_27 rfl (lv_at hl 1 rfl) ?_
        have ho := Option.some.inj hfn
        subst ho
        exact zri hx hb hr hK hP hD hS hQ rfl hlocks dX12_allChoices_28
      have hfn := (if_neg c_2).symm.trans hfn
      refine lv_iload_n hx hb dX12_allChoices_12 rfl (lv_at hl 1 rfl) ?_
      refine lv_aload_n hx hb dX12_allChoices_13 rfl (lv_at hl 2 rfl) ?_
      refine va_get (D := (dC, dI)) (ci := 12) (v := .ref (a0 12)) (C := RX12) (T := TX12) (N := 67) hx hb hts zn_X12_allChoices_X12 hown hK hP 0 rfl rfl 12 (of_decide_eq_true rfl) (hts (.fieldLink RX12 47 "ShortEnoughModel" "formats" "[I") zw_X12_allChoices_1224) (fun _ h9 => h9) rfl dX12_allChoices_14 ?_
      refine lv_iconst (v := 0) hx hb dX12_allChoices_17 zci_0 ?_
      refine va_iald hx hb hK hP 1 0 rfl rfl (zv_in (by decide +kernel)) dX12_allChoices_18 ?_
      refine lv_imul hx hb dX12_allChoices_19 ?_
      refine lv_istore_n (lv' := [(1, .int (s_1.1 * (f1 (0 : Int32).toNatClampNeg))), (2, .int s_1.2), (0, .ref h0)]) hx hb dX12_allChoices_20 rfl hl (of_decide_eq_true rfl) rfl (fun ls hl => ?_)
      refine lv_iinc (v := (s_1.2 + 1)) (lv' := [(2, .int (s_1.2 + 1)), (1, .int (s_1.1 * (f1 (0 : Int32).toNatClampNeg))), (0, .ref h0)]) hx hb dX12_allChoices_21 hl (k := 1) rfl rfl (of_decide_eq_true rfl) rfl (fun ls hl => ?_)
      refine lv_goto (tgt := 4) hx hb dX12_allChoices_24 (of_decide_eq_true rfl) ?_
      exact ih_1 ((s_1.1 * (f1 (0 : Int32).toNatClampNeg)), (s_1.2 + 1)) H locs ls hfn hP hD hS (lv_sub hl [0, 1, 2] rfl)
  exact lp_1 _ (1, 0) s.heap [] ls hfn hP hD hS (lv_sub hl [0, 1, 2] rfl)
theorem zn_X12_triesChoice_X12 : ∀ w ∈ wsX120, w ∈ wsX12_triesChoice := fun _ h => List.mem_cons_of_mem _ (List.mem_append_right _ h)
theorem zw_X12_triesChoice_1226 : Cond.fieldLink RX12 103 "ShortEnoughModel" "freeMany" "I" ∈ wsX12_triesChoice := List.mem_of_getElem? (i := 1) (by decide +kernel)
theorem zw_X12_triesChoice_1227 : Cond.fieldLink RX12 100 "ShortEnoughModel" "free" "[I" ∈ wsX12_triesChoice := List.mem_of_getElem? (i := 2) (by decide +kernel)
theorem zw_X12_triesChoice_1228 : Cond.fieldLink RX12 47 "ShortEnoughModel" "formats" "[I" ∈ wsX12_triesChoice := List.mem_of_getElem? (i := 3) (by decide +kernel)
set_option maxHeartbeats 4000000 in
set_option maxRecDepth 100000 in
theorem zf_X12_triesChoice (l : Launch) (dC : Nat → ClassId) (dI : Nat → Nat → Nat) (h0 : Nat) (p1 : Int32) (a0 : Nat → Nat) (b0 : Nat → Int32) (c0 : Nat → Int64) (k1 : Nat) (f1 : Nat → Int32) (k2 : Nat) (f2 : Nat → Int32) (k3 : Nat) (f3 : Nat → Int32) (k4 : Nat) (f4 : Nat → Int32) (k5 : Nat) (f5 : Nat → Int32) (k6 : Nat) (f6 : Nat → Int32) (o : (Nat → Int32)) (hfn : fn_X12_triesChoice p1 (b0 30) f1 f2 f3 f4 f5 f6 = some o) (sz : Nat) : zMv l yX12_triesChoice wsX12_triesChoice ({ frames := 1, cells := 0, slots := 0, locals := 23 }) (dC, dI) vwCl [.ref h0, .int p1] [(h0, .inr (12, zO a0 b0 c0)), zVi (a0 17) k1 2 f1, zVi (a0 37) k2 14 f2, zVi (a0 39) k3 14 f3, zVi (a0 29) k4 14 f4, zVi (a0 12) k5 2 f5, zVi (a0 27) k6 28 f6] [(k1, .int), (k2, .int), (k3, .int), (k4, .int), (k5, .int), (k6, .int)] (fun _ => True) [(h0, .inr (12, zO a0 b0 c0)), zVi (a0 17) k1 2 f1, zVi (a0 37) k2 14 f2, zVi (a0 39) k3 14 o, zVi (a0 29) k4 14 f4, zVi (a0 12) k5 2 f5, zVi (a0 27) k6 28 f6] [(k1, .int), (k2, .int), (k3, .int), (k4, .int), (k5, .int), (k6, .int)] sz := by
  refine zgov (cc := cX12_triesChoice) (maxL := 4) (ret := none) (C0 := RX12) (lv0 := [(0, .ref h0), (1, .int p1)]) zpl_X12 rfl rfl rfl (Nat.le_of_ble_eq_true rfl) ?_
  intro p e s m below meth c A ls Q hx hb hr hts hown hlocks hml hP hK hD hA hS hl hQ
  unfold fn_X12_triesChoice at hfn
  refine lv_aload_n hx hb dX12_triesChoice_0 rfl (lv_at hl 0 rfl) ?_
  obtain ⟨o_1, hqo_1, hfn⟩ := zb_s hfn
  refine zcVv (ci := 12) (rest := []) (pc' := 4) (ws' := [(h0, .inr (12, zO a0 b0 c0)), zVi (a0 17) k1 2 f1, zVi (a0 37) k2 14 f2, zVi (a0 39) k3 14 o_1, zVi (a0 29) k4 14 f4, zVi (a0 12) k5 2 f5, zVi (a0 27) k6 28 f6]) hP hK hD hS hA ⟨hx, hb, hml, hown, hts⟩ (zf_X12_triesHand l dC dI h0 a0 b0 c0 k1 f1 k2 f2 k3 f3 o_1 hqo_1 s.heap.size) (cwV 0 hts gX12_triesChoice_X12_triesHand rfl rfl rfl zhd_X12_triesHand ⟨Nat.le_of_ble_eq_true rfl, Nat.le_of_ble_eq_true rfl⟩) [0, 1, 2, 3] rfl (of_decide_eq_true rfl) [0, 1, 2] rfl rfl rfl rfl hl.1 rfl (Nat.le_of_ble_eq_true rfl) dX12_triesChoice_1 ⟨Nat.le_of_ble_eq_true rfl, Nat.le_of_ble_eq_true rfl⟩ [some 0, some 1, some 2, some 3] (of_decide_eq_true rfl) (of_decide_eq_true rfl) rfl rfl rfl (fun H locs hP hD hS => ?_)
  refine lv_iload_n hx hb dX12_triesChoice_4 rfl (lv_at hl 1 rfl) ?_
  refine lv_istore_n (lv' := [(2, .int p1), (0, .ref h0), (1, .int p1)]) hx hb dX12_triesChoice_5 rfl hl (of_decide_eq_true rfl) rfl (fun ls hl => ?_)
  refine lv_aload_n hx hb dX12_triesChoice_6 rfl (lv_at hl 1 rfl) ?_
  refine va_get (D := (dC, dI)) (ci := 12) (v := .int (b0 30)) (C := RX12) (T := TX12) (N := 67) hx hb hts zn_X12_triesChoice_X12 hown hK hP 0 rfl rfl 30 (of_decide_eq_true rfl) (hts (.fieldLink RX12 103 "ShortEnoughModel" "freeMany" "I") zw_X12_triesChoice_1226) (fun _ h9 => h9) rfl dX12_triesChoice_7 ?_
  refine lv_iconst (v := 1) hx hb dX12_triesChoice_10 zci_1 ?_
  refine lv_isub hx hb dX12_triesChoice_11 ?_
  refine lv_istore_n (lv' := [(3, .int ((b0 30) - 1)), (2, .int p1), (0, .ref h0), (1, .int p1)]) hx hb dX12_triesChoice_12 rfl hl (of_decide_eq_true rfl) rfl (fun ls hl => ?_)
  obtain ⟨bd_5, ebd_5, hfn⟩ := zl_g hfn
  have lp_5 : ∀ (n : Nat) (s_5 : Int32 × Int32 × (Nat → Int32)) (H : Heap) (locs : List Loc) (ls : Array Slot), zl bd_5 n s_5 = some o → va_P (dC, dI) vwCl [(h0, .inr (12, zO a0 b0 c0)), zVi (a0 17) k1 2 f1, zVi (a0 37) k2 14 f2, zVi (a0 39) k3 14 s_5.2.2, zVi (a0 29) k4 14 f4, zVi (a0 12) k5 2 f5, zVi (a0 27) k6 28 f6] H → va_D A [(h0, .inr (12, zO a0 b0 c0)), zVi (a0 17) k1 2 f1, zVi (a0 37) k2 14 f2, zVi (a0 39) k3 14 s_5.2.2, zVi (a0 29) k4 14 f4, zVi (a0 12) k5 2 f5, zVi (a0 27) k6 28 f6] → va_S A s.heap H locs → lv_has ls 4 [(3, .int s_5.2.1), (2, .int s_5.1), (0, .ref h0)] → W p l e (headSpec wsX12_triesChoice ({ frames := 1, cells := 0, slots := 0, locals := 23 })).room s m ([.ref h0, .int p1] : List Value).toArray below meth c H locs 0 0 Q (F0 m 13 ls []) := by
    intro n
    induction n with
    | zero => exact fun _ _ _ _ hfn => (zl_0 hfn).elim
    | succ n ih_5 =>
      intro s_5 H locs ls hfn hP hD hS hl
      have hfn := zl_s ebd_5 hfn
      refine lv_iload_n hx hb dX12_triesChoice_13 rfl (lv_at hl 0 rfl) ?_
      refine lv_if_lt (tgt := 50) hx hb dX12_triesChoice_14 (of_decide_eq_true rfl) (fun c_6 => ?_) (fun c_6 => ?_)
      · have hfn := (if_pos c_6).symm.trans hfn
        have ho := Option.some.inj hfn
        subst ho
        exact zrv hx hb hr hK hP hD hS hQ trivial hlocks dX12_triesChoice_50
      have hfn := (if_neg c_6).symm.trans hfn
      refine lv_aload_n hx hb dX12_triesChoice_17 rfl (lv_at hl 2 rfl) ?_
      refine lv_aload_n hx hb dX12_triesChoice_18 rfl (lv_at hl 2 rfl) ?_
      refine va_get (D := (dC, dI)) (ci := 12) (v := .ref (a0 29)) (C := RX12) (T := TX12) (N := 67) hx hb hts zn_X12_triesChoice_X12 hown hK hP 0 rfl rfl 29 (of_decide_eq_true rfl) (hts (.fieldLink RX12 100 "ShortEnoughModel" "free" "[I") zw_X12_triesChoice_1227) (fun _ h9 => h9) rfl dX12_triesChoice_19 ?_
      refine lv_iload_n hx hb dX12_triesChoice_22 rfl (lv_at hl 0 rfl) ?_
      obtain ⟨h_7, hfn⟩ := zg_s hfn
      refine va_iald hx hb hK hP 4 3 rfl rfl h_7 dX12_triesChoice_23 ?_
      refine lv_iload_n hx hb dX12_triesChoice_24 rfl (lv_at hl 1 rfl) ?_
      refine lv_aload_n hx hb dX12_triesChoice_25 rfl (lv_at hl 2 rfl) ?_
      refine va_get (D := (dC, dI)) (ci := 12) (v := .ref (a0 12)) (C := RX12) (T := TX12) (N := 67) hx hb hts zn_X12_triesChoice_X12 hown hK hP 0 rfl rfl 12 (of_decide_eq_true rfl) (hts (.fieldLink RX12 47 "ShortEnoughModel" "formats" "[I") zw_X12_triesChoice_1228) (fun _ h9 => h9) rfl dX12_triesChoice_26 ?_
      refine lv_iconst (v := 0) hx hb dX12_triesChoice_29 zci_0 ?_
      refine va_iald hx hb hK hP 5 4 rfl rfl (zv_in (by decide +kernel)) dX12_triesChoice_30 ?_
      obtain ⟨h_8, hfn⟩ := zd_s hfn
      refine lv_irem hx hb dX12_triesChoice_31 h_8 ?_
      refine lv_topi (fun x_9 ex_9 => ?_)
      have hfn := zn_s hfn ex_9
      obtain ⟨o_10, hqo_10, hfn⟩ := zb_s hfn
      refine zcVv (ci := 12) (rest := []) (pc' := 35) (ws' := [(h0, .inr (12, zO a0 b0 c0)), zVi (a0 17) k1 2 f1, zVi (a0 37) k2 14 f2, zVi (a0 39) k3 14 o_10, zVi (a0 29) k4 14 f4, zVi (a0 12) k5 2 f5, zVi (a0 27) k6 28 f6]) hP hK hD hS hA ⟨hx, hb, hml, hown, hts⟩ (zf_X12_triesGroup l dC dI h0 (f4 s_5.2.1.toNatClampNeg) x_9 a0 b0 c0 k1 f1 k6 f6 k3 s_5.2.2 o_10 hqo_10 H.size) (cwV 2 hts gX12_triesChoice_X12_triesGroup rfl rfl rfl zhd_X12_triesGroup ⟨Nat.le_of_ble_eq_true rfl, Nat.le_of_ble_eq_true rfl⟩) [0, 1, 6, 3] rfl (of_decide_eq_true rfl) [0, 5, 2] rfl rfl rfl rfl hl.1 rfl (Nat.le_of_ble_eq_true rfl) dX12_triesChoice_32 ⟨Nat.le_of_ble_eq_true rfl, Nat.le_of_ble_eq_true rfl⟩ [some 0, some 1, none, some 3, none, none, some 2] (of_decide_eq_true rfl) (of_decide_eq_true rfl) rfl rfl rfl (fun H locs hP hD hS => ?_)
      refine lv_iload_n hx hb dX12_triesChoice_35 rfl (lv_at hl 1 rfl) ?_
      refine lv_aload_n hx hb dX12_triesChoice_36 rfl (lv_at hl 2 rfl) ?_
      refine va_get (D := (dC, dI)) (ci := 12) (v := .ref (a0 12)) (C := RX12) (T := TX12) (N := 67) hx hb hts zn_X12_triesChoice_X12 hown hK hP 0 rfl rfl 12 (of_decide_eq_true rfl) (hts (.fieldLink RX12 47 "ShortEnoughModel" "formats" "[I") zw_X12_triesChoice_1228) (fun _ h9 => h9) rfl dX12_triesChoice_37 ?_
      refine lv_iconst (v := 0) hx hb dX12_triesChoice_40 zci_0 ?_
      refine va_iald hx hb hK hP 5 4 rfl rfl (zv_in (by decide +kernel)) dX12_triesChoice_41 ?_
      obtain ⟨h_14, hfn⟩ := zd_s hfn
      refine lv_idiv hx hb dX12_triesChoice_42 h_14 ?_
      refine lv_istore_n (lv' := [(2, .int (s_5.1 / (f5 (0 : Int32).toNatClampNeg))), (3, .int s_5.2.1), (0, .ref h0)]) hx hb dX12_triesChoice_43 rfl hl (of_decide_eq_true rfl) rfl (fun ls hl => ?_)
      refine lv_iinc (v := (s_5.2.1 + (-1))) (lv' := [(3, .int (s_5.2.1 + (-1))), (2, .int (s_5.1 / (f5 (0 : Int32).toNatClampNeg))), (0, .ref h0)]) hx hb dX12_triesChoice_44 hl (k := 1) rfl rfl (of_decide_eq_true rfl) rfl (fun ls hl => ?_)
      refine lv_goto (tgt := 13) hx hb dX12_triesChoice_47 (of_decide_eq_true rfl) ?_
      exact ih_5 ((s_5.1 / (f5 (0 : Int32).toNatClampNeg)), (s_5.2.1 + (-1)), o_10) H locs ls hfn hP hD hS (lv_sub hl [0, 1, 2] rfl)
  exact lp_5 _ (p1, ((b0 30) - 1), o_1) H locs ls hfn hP hD hS (lv_sub hl [0, 1, 2] rfl)

set_option maxHeartbeats 4000000 in
set_option maxRecDepth 100000 in
theorem zf_X12_cheapestChoice (l : Launch) (dC : Nat → ClassId) (dI : Nat → Nat → Nat) (h0 : Nat) (a0 : Nat → Nat) (b0 : Nat → Int32) (c0 : Nat → Int64) (k1 : Nat) (f1 : Nat → Int32) (k2 : Nat) (f2 : Nat → Int32) (k3 : Nat) (f3 : Nat → Int32) (k4 : Nat) (f4 : Nat → Int32) (k5 : Nat) (f5 : Nat → Int32) (k6 : Nat) (f6 : Nat → Int32) (k7 : Nat) (f7 : Nat → Int32) (k8 : Nat) (f8 : Nat → Int32) (k9 : Nat) (f9 : Nat → Int32) (k10 : Nat) (f10 : Nat → Int32) (k11 : Nat) (f11 : Nat → Int32) (k12 : Nat) (f12 : Nat → Int64) (k13 : Nat) (f13 : Nat → Int64) (k14 : Nat) (f14 : Nat → Int64) (k15 : Nat) (f15 : Nat → Int64) (k16 : Nat) (f16 : Nat → Int32) (k17 : Nat) (f17 : Nat → Int64) (k18 : Nat) (f18 : Nat → Int32) (k19 : Nat) (f19 : Nat → Int32) (o : Int32 × Int32 × Int32 × (Nat → Int32) × (Nat → Int64) × (Nat → Int64) × (Nat → Int64)) (hfn : fn_X12_cheapestChoice (b0 30) (b0 33) (c0 34) (b0 41) (b0 42) f1 f2 f3 f4 f5 f6 f7 f8 f9 f10 f11 f12 f13 f14 f15 f16 f17 f18 f19 = some o) (sz : Nat) : zMi l yX12_cheapestChoice wsX12_cheapestChoice ({ frames := 5, cells := 0, slots := 0, locals := 134 }) (dC, dI) vwCl [.ref h0] [(h0, .inr (12, zO a0 b0 c0)), zVi (a0 12) k1 2 f1, zVi (a0 17) k2 2 f2, zVi (a0 37) k3 14 f3, zVi (a0 39) k4 14 f4, zVi (a0 29) k5 14 f5, zVi (a0 27) k6 28 f6, zVi (a0 24) k7 2 f7, zVi (a0 20) k8 28 f8, zVi (a0 21) k9 28 f9, zVi (a0 16) k10 8 f10, zVi (a0 19) k11 28 f11, zVl (a0 31) k12 14 f12, zVl (a0 22) k13 28 f13, zVl (a0 23) k14 28 f14, zVl (a0 32) k15 14 f15, zVi (a0 14) k16 8 f16, zVl (a0 40) k17 14 f17, zVi (a0 15) k18 8 f18, zVi (a0 26) k19 28 f19] [(k1, .int), (k2, .int), (k3, .int), (k4, .int), (k5, .int), (k6, .int), (k7, .int), (k8, .int), (k9, .int), (k10, .int), (k11, .int), (k12, .long), (k13, .long), (k14, .long), (k15, .long), (k16, .int), (k17, .long), (k18, .int), (k19, .int)] (fun r _ => r = o.1) [(h0, .inr (12, zO a0 (zI (zI b0 41 o.2.1) 42 o.2.2.1) c0)), zVi (a0 12) k1 2 f1, zVi (a0 17) k2 2 f2, zVi (a0 37) k3 14 f3, zVi (a0 39) k4 14 o.2.2.2.1, zVi (a0 29) k5 14 f5, zVi (a0 27) k6 28 f6, zVi (a0 24) k7 2 f7, zVi (a0 20) k8 28 f8, zVi (a0 21) k9 28 f9, zVi (a0 16) k10 8 f10, zVi (a0 19) k11 28 f11, zVl (a0 31) k12 14 o.2.2.2.2.1, zVl (a0 22) k13 28 f13, zVl (a0 23) k14 28 f14, zVl (a0 32) k15 14 o.2.2.2.2.2.1, zVi (a0 14) k16 8 f16, zVl (a0 40) k17 14 o.2.2.2.2.2.2, zVi (a0 15) k18 8 f18, zVi (a0 26) k19 28 f19] [(k1, .int), (k2, .int), (k3, .int), (k4, .int), (k5, .int), (k6, .int), (k7, .int), (k8, .int), (k9, .int), (k10, .int), (k11, .int), (k12, .long), (k13, .long), (k14, .long), (k15, .long), (k16, .int), (k17, .long), (k18, .int), (k19, .int)] sz := by
  refine zgoi (cc := cX12_cheapestChoice) (maxL := 6) (ret := (some .int)) (C0 := RX12) (lv0 := [(0, .ref h0)]) zpl_X12 rfl rfl rfl (Nat.le_of_ble_eq_true rfl) ?_
  intro p e s m below meth c A ls Q hx hb hr hts hown hlocks hml hP hK hD hA hS hl hQ
  unfold fn_X12_cheapestChoice at hfn
  refine lv_iconst (v := (-1)) hx hb dX12_cheapestChoice_0 zci_m1 ?_
  refine lv_istore_n (lv' := [(1, .int (-1)), (0, .ref h0)]) hx hb dX12_cheapestChoice_1 rfl hl (of_decide_eq_true rfl) rfl (fun ls hl => ?_)
  refine lv_iconst (v := 0) hx hb dX12_cheapestChoice_2 zci_0 ?_
  refine lv_istore_n (lv' := [(2, .int 0), (1, .int (-1)), (0, .ref h0)]) hx hb dX12_cheapestChoice_3 rfl hl (of_decide_eq_true rfl) rfl (fun ls hl => ?_)
  refine lv_aload_n hx hb dX12_cheapestChoice_4 rfl (lv_at hl 2 rfl) ?_
  obtain ⟨o_1, hqo_1, hfn⟩ := zb_s hfn
  refine zcVi (ci := 12) (rest := []) (pc' := 8) (ws' := [(h0, .inr (12, zO a0 b0 c0)), zVi (a0 12) k1 2 f1, zVi (a0 17) k2 2 f2, zVi (a0 37) k3 14 f3, zVi (a0 39) k4 14 f4, zVi (a0 29) k5 14 f5, zVi (a0 27) k6 28 f6, zVi (a0 24) k7 2 f7, zVi (a0 20) k8 28 f8, zVi (a0 21) k9 28 f9, zVi (a0 16) k10 8 f10, zVi (a0 19) k11 28 f11, zVl (a0 31) k12 14 f12, zVl (a0 22) k13 28 f13, zVl (a0 23) k14 28 f14, zVl (a0 32) k15 14 f15, zVi (a0 14) k16 8 f16, zVl (a0 40) k17 14 f17, zVi (a0 15) k18 8 f18, zVi (a0 26) k19 28 f19]) hP hK hD hS hA ⟨hx, hb, hml, hown, hts⟩ (zf_X12_allChoices l dC dI h0 a0 b0 c0 k1 f1 o_1 hqo_1 s.heap.size) (cwV 0 hts gX12_cheapestChoice_X12_allChoices rfl rfl rfl zhd_X12_allChoices ⟨Nat.le_of_ble_eq_true rfl, Nat.le_of_ble_eq_true rfl⟩) [0, 1] rfl (of_decide_eq_true rfl) [0] rfl rfl rfl rfl hl.1 rfl (Nat.le_of_ble_eq_true rfl) dX12_cheapestChoice_5 ⟨Nat.le_of_ble_eq_true rfl, Nat.le_of_ble_eq_true rfl⟩ [some 0, some 1] (of_decide_eq_true rfl) (of_decide_eq_true rfl) rfl rfl rfl (fun H locs hP hD hS => ?_)
  refine lv_istore_n (lv' := [(3, .int o_1), (2, .int 0), (1, .int (-1)), (0, .ref h0)]) hx hb dX12_cheapestChoice_8 rfl hl (of_decide_eq_true rfl) rfl (fun ls hl => ?_)
  refine lv_iconst (v := 0) hx hb dX12_cheapestChoice_9 zci_0 ?_
  refine lv_istore (lv' := [(4, .int 0), (3, .int o_1), (2, .int 0), (1, .int (-1)), (0, .ref h0)]) hx hb dX12_cheapestChoice_10 hl (of_decide_eq_true rfl) rfl (fun ls hl => ?_)
  obtain ⟨bd_5, ebd_5, hfn⟩ := zl_g hfn
  have lp_5 : ∀ (n : Nat) (s_5 : Int32 × Int32 × Int32 × Int32 × Int32 × (Nat → Int64) × (Nat → Int64) × (Nat → Int32) × (Nat → Int64)) (H : Heap) (locs : List Loc) (ls : Array Slot), zl bd_5 n s_5 = some o → va_P (dC, dI) vwCl [(h0, .inr (12, zO a0 (zI (zI b0 41 s_5.2.2.2.1) 42 s_5.2.2.2.2.1) c0)), zVi (a0 12) k1 2 f1, zVi (a0 17) k2 2 f2, zVi (a0 37) k3 14 f3, zVi (a0 39) k4 14 s_5.2.2.2.2.2.2.2.1, zVi (a0 29) k5 14 f5, zVi (a0 27) k6 28 f6, zVi (a0 24) k7 2 f7, zVi (a0 20) k8 28 f8, zVi (a0 21) k9 28 f9, zVi (a0 16) k10 8 f10, zVi (a0 19) k11 28 f11, zVl (a0 31) k12 14 s_5.2.2.2.2.2.1, zVl (a0 22) k13 28 f13, zVl (a0 23) k14 28 f14, zVl (a0 32) k15 14 s_5.2.2.2.2.2.2.1, zVi (a0 14) k16 8 f16, zVl (a0 40) k17 14 s_5.2.2.2.2.2.2.2.2, zVi (a0 15) k18 8 f18, zVi (a0 26) k19 28 f19] H → va_D A [(h0, .inr (12, zO a0 (zI (zI b0 41 s_5.2.2.2.1) 42 s_5.2.2.2.2.1) c0)), zVi (a0 12) k1 2 f1, zVi (a0 17) k2 2 f2, zVi (a0 37) k3 14 f3, zVi (a0 39) k4 14 s_5.2.2.2.2.2.2.2.1, zVi (a0 29) k5 14 f5, zVi (a0 27) k6 28 f6, zVi (a0 24) k7 2 f7, zVi (a0 20) k8 28 f8, zVi (a0 21) k9 28 f9, zVi (a0 16) k10 8 f10, zVi (a0 19) k11 28 f11, zVl (a0 31) k12 14 s_5.2.2.2.2.2.1, zVl (a0 22) k13 28 f13, zVl (a0 23) k14 28 f14, zVl (a0 32) k15 14 s_5.2.2.2.2.2.2.1, zVi (a0 14) k16 8 f16, zVl (a0 40) k17 14 s_5.2.2.2.2.2.2.2.2, zVi (a0 15) k18 8 f18, zVi (a0 26) k19 28 f19] → va_S A s.heap H locs → lv_has ls 6 [(4, .int s_5.2.2.1), (3, .int o_1), (2, .int s_5.2.1), (1, .int s_5.1), (0, .ref h0)] → W p l e (headSpec wsX12_cheapestChoice ({ frames := 5, cells := 0, slots := 0, locals := 134 })).room s m ([.ref h0] : List Value).toArray below meth c H locs 0 0 Q (F0 m 12 ls []) := by
    intro n
    induction n with
    | zero => exact fun _ _ _ _ hfn => (zl_0 hfn).elim
    | succ n ih_5 =>
      intro s_5 H locs ls hfn hP hD hS hl
      have hfn := zl_s ebd_5 hfn
      refine lv_iload hx hb dX12_cheapestChoice_12 (lv_at hl 0 rfl) ?_
      refine lv_iload_n hx hb dX12_cheapestChoice_14 rfl (lv_at hl 1 rfl) ?_
      refine lv_icmp_ge (tgt := 63) hx hb dX12_cheapestChoice_15 (of_decide_eq_true rfl) (fun c_6 => ?_) (fun c_6 => ?_)
      · have hfn := (if_pos c_6).symm.trans hfn
        refine lv_iload_n hx hb dX12_cheapestChoice_63 rfl (lv_at hl 3 rfl) ?_
        have ho := Option.some.inj hfn
        subst ho
        exact zri hx hb hr hK hP hD hS hQ rfl hlocks dX12_cheapestChoice_64
      have hfn := (if_neg c_6).symm.trans hfn
      refine lv_aload_n hx hb dX12_cheapestChoice_18 rfl (lv_at hl 4 rfl) ?_
      refine lv_iload hx hb dX12_cheapestChoice_19 (lv_at hl 0 rfl) ?_
      obtain ⟨o_7, hqo_7, hfn⟩ := zb_s hfn
      refine zcVv (ci := 12) (rest := []) (pc' := 24) (ws' := [(h0, .inr (12, zO a0 (zI (zI b0 41 s_5.2.2.2.1) 42 s_5.2.2.2.2.1) c0)), zVi (a0 12) k1 2 f1, zVi (a0 17) k2 2 f2, zVi (a0 37) k3 14 f3, zVi (a0 39) k4 14 o_7, zVi (a0 29) k5 14 f5, zVi (a0 27) k6 28 f6, zVi (a0 24) k7 2 f7, zVi (a0 20) k8 28 f8, zVi (a0 21) k9 28 f9, zVi (a0 16) k10 8 f10, zVi (a0 19) k11 28 f11, zVl (a0 31) k12 14 s_5.2.2.2.2.2.1, zVl (a0 22) k13 28 f13, zVl (a0 23) k14 28 f14, zVl (a0 32) k15 14 s_5.2.2.2.2.2.2.1, zVi (a0 14) k16 8 f16, zVl (a0 40) k17 14 s_5.2.2.2.2.2.2.2.2, zVi (a0 15) k18 8 f18, zVi (a0 26) k19 28 f19]) hP hK hD hS hA ⟨hx, hb, hml, hown, hts⟩ (zf_X12_triesChoice l dC dI h0 s_5.2.2.1 a0 (zI (zI b0 41 s_5.2.2.2.1) 42 s_5.2.2.2.2.1) c0 k2 f2 k3 f3 k4 s_5.2.2.2.2.2.2.2.1 k5 f5 k1 f1 k6 f6 o_7 hqo_7 H.size) (cwV 1 hts gX12_cheapestChoice_X12_triesChoice rfl rfl rfl zhd_X12_triesChoice ⟨Nat.le_of_ble_eq_true rfl, Nat.le_of_ble_eq_true rfl⟩) [0, 2, 3, 4, 5, 1, 6] rfl (of_decide_eq_true rfl) [1, 2, 3, 4, 0, 5] rfl rfl rfl rfl hl.1 rfl (Nat.le_of_ble_eq_true rfl) dX12_cheapestChoice_21 ⟨Nat.le_of_ble_eq_true rfl, Nat.le_of_ble_eq_true rfl⟩ [some 0, some 5, some 1, some 2, some 3, some 4, some 6] (of_decide_eq_true rfl) (of_decide_eq_true rfl) rfl rfl rfl (fun H locs hP hD hS => ?_)
      refine lv_aload_n hx hb dX12_cheapestChoice_24 rfl (lv_at hl 4 rfl) ?_
      obtain ⟨o_11, hqo_11, hfn⟩ := zb_s hfn
      refine zcVi (ci := 12) (rest := []) (pc' := 28) (ws' := [(h0, .inr (12, zO a0 (zI (zI b0 41 s_5.2.2.2.1) 42 s_5.2.2.2.2.1) c0)), zVi (a0 12) k1 2 f1, zVi (a0 17) k2 2 f2, zVi (a0 37) k3 14 f3, zVi (a0 39) k4 14 o_7, zVi (a0 29) k5 14 f5, zVi (a0 27) k6 28 f6, zVi (a0 24) k7 2 f7, zVi (a0 20) k8 28 f8, zVi (a0 21) k9 28 f9, zVi (a0 16) k10 8 f10, zVi (a0 19) k11 28 f11, zVl (a0 31) k12 14 s_5.2.2.2.2.2.1, zVl (a0 22) k13 28 f13, zVl (a0 23) k14 28 f14, zVl (a0 32) k15 14 s_5.2.2.2.2.2.2.1, zVi (a0 14) k16 8 f16, zVl (a0 40) k17 14 s_5.2.2.2.2.2.2.2.2, zVi (a0 15) k18 8 f18, zVi (a0 26) k19 28 f19]) hP hK hD hS hA ⟨hx, hb, hml, hown, hts⟩ (zf_X12_costTried l dC dI h0 a0 (zI (zI b0 41 s_5.2.2.2.1) 42 s_5.2.2.2.2.1) c0 k7 f7 k2 f2 k8 f8 k4 o_7 k9 f9 k10 f10 o_11 hqo_11 H.size) (cwV 0 hts gX12_cheapestChoice_X12_costTried rfl rfl rfl zhd_X12_costTried ⟨Nat.le_of_ble_eq_true rfl, Nat.le_of_ble_eq_true rfl⟩) [0, 7, 2, 8, 4, 9, 10] rfl (of_decide_eq_true rfl) [6, 1, 7, 3, 8, 9] rfl rfl rfl rfl hl.1 rfl (Nat.le_of_ble_eq_true rfl) dX12_cheapestChoice_25 ⟨Nat.le_of_ble_eq_true rfl, Nat.le_of_ble_eq_true rfl⟩ [some 0, none, some 2, none, some 4, none, none, some 1, some 3, some 5, some 6] (of_decide_eq_true rfl) (of_decide_eq_true rfl) rfl rfl rfl (fun H locs hP hD hS => ?_)
      refine lv_istore (lv' := [(5, .int o_11), (4, .int s_5.2.2.1), (3, .int o_1), (2, .int s_5.2.1), (1, .int s_5.1), (0, .ref h0)]) hx hb dX12_cheapestChoice_28 hl (of_decide_eq_true rfl) rfl (fun ls hl => ?_)
      refine lv_iload_n hx hb dX12_cheapestChoice_30 rfl (lv_at hl 4 rfl) ?_
      refine lv_iconst (v := (-1)) hx hb dX12_cheapestChoice_31 zci_m1 ?_
      obtain ⟨j_15, ej_15, hfn⟩ := zj_g hfn
      have jp_15 : ∀ (s_15 : Unit) (H : Heap) (locs : List Loc) (ls : Array Slot), j_15 s_15 = some o → va_P (dC, dI) vwCl [(h0, .inr (12, zO a0 (zI (zI b0 41 s_5.2.2.2.1) 42 s_5.2.2.2.2.1) c0)), zVi (a0 12) k1 2 f1, zVi (a0 17) k2 2 f2, zVi (a0 37) k3 14 f3, zVi (a0 39) k4 14 o_7, zVi (a0 29) k5 14 f5, zVi (a0 27) k6 28 f6, zVi (a0 24) k7 2 f7, zVi (a0 20) k8 28 f8, zVi (a0 21) k9 28 f9, zVi (a0 16) k10 8 f10, zVi (a0 19) k11 28 f11, zVl (a0 31) k12 14 s_5.2.2.2.2.2.1, zVl (a0 22) k13 28 f13, zVl (a0 23) k14 28 f14, zVl (a0 32) k15 14 s_5.2.2.2.2.2.2.1, zVi (a0 14) k16 8 f16, zVl (a0 40) k17 14 s_5.2.2.2.2.2.2.2.2, zVi (a0 15) k18 8 f18, zVi (a0 26) k19 28 f19] H → va_D A [(h0, .inr (12, zO a0 (zI (zI b0 41 s_5.2.2.2.1) 42 s_5.2.2.2.2.1) c0)), zVi (a0 12) k1 2 f1, zVi (a0 17) k2 2 f2, zVi (a0 37) k3 14 f3, zVi (a0 39) k4 14 o_7, zVi (a0 29) k5 14 f5, zVi (a0 27) k6 28 f6, zVi (a0 24) k7 2 f7, zVi (a0 20) k8 28 f8, zVi (a0 21) k9 28 f9, zVi (a0 16) k10 8 f10, zVi (a0 19) k11 28 f11, zVl (a0 31) k12 14 s_5.2.2.2.2.2.1, zVl (a0 22) k13 28 f13, zVl (a0 23) k14 28 f14, zVl (a0 32) k15 14 s_5.2.2.2.2.2.2.1, zVi (a0 14) k16 8 f16, zVl (a0 40) k17 14 s_5.2.2.2.2.2.2.2.2, zVi (a0 15) k18 8 f18, zVi (a0 26) k19 28 f19] → va_S A s.heap H locs → lv_has ls 6 [(5, .int o_11), (4, .int s_5.2.2.1), (3, .int o_1), (2, .int s_5.2.1), (1, .int s_5.1), (0, .ref h0)] → W p l e (headSpec wsX12_cheapestChoice ({ frames := 5, cells := 0, slots := 0, locals := 134 })).room s m ([.ref h0] : List Value).toArray below meth c H locs 0 0 Q (F0 m 41 ls []) := by
        intro s_15 H locs ls hfn hP hD hS hl
        have hfn := zj_s ej_15 hfn
        refine lv_aload_n hx hb dX12_cheapestChoice_41 rfl (lv_at hl 5 rfl) ?_
        obtain ⟨o_16, hqo_16, hfn⟩ := zb_s hfn
        refine zcVb (ci := 12) (rest := []) (pc' := 45) (ws' := [(h0, .inr (12, zO a0 (zI (zI b0 41 o_16.2.1) 42 o_16.2.2.1) c0)), zVi (a0 12) k1 2 f1, zVi (a0 17) k2 2 f2, zVi (a0 37) k3 14 f3, zVi (a0 39) k4 14 o_7, zVi (a0 29) k5 14 f5, zVi (a0 27) k6 28 f6, zVi (a0 24) k7 2 f7, zVi (a0 20) k8 28 f8, zVi (a0 21) k9 28 f9, zVi (a0 16) k10 8 f10, zVi (a0 19) k11 28 f11, zVl (a0 31) k12 14 o_16.2.2.2.1, zVl (a0 22) k13 28 f13, zVl (a0 23) k14 28 f14, zVl (a0 32) k15 14 o_16.2.2.2.2.1, zVi (a0 14) k16 8 f16, zVl (a0 40) k17 14 o_16.2.2.2.2.2, zVi (a0 15) k18 8 f18, zVi (a0 26) k19 28 f19]) hP hK hD hS hA ⟨hx, hb, hml, hown, hts⟩ (zf_X12_passes l dC dI h0 a0 (zI (zI b0 41 s_5.2.2.2.1) 42 s_5.2.2.2.2.1) c0 k2 f2 k11 f11 k8 f8 k9 f9 k12 s_5.2.2.2.2.2.1 k13 f13 k14 f14 k15 s_5.2.2.2.2.2.2.1 k4 o_7 k16 f16 k17 s_5.2.2.2.2.2.2.2.2 k18 f18 k19 f19 o_16 hqo_16 H.size) (cwV 0 hts gX12_cheapestChoice_X12_passes rfl rfl rfl zhd_X12_passes ⟨Nat.le_of_ble_eq_true rfl, Nat.le_of_ble_eq_true rfl⟩) [0, 2, 11, 8, 9, 12, 13, 14, 15, 4, 16, 17, 18, 19] rfl (of_decide_eq_true rfl) [1, 10, 7, 8, 11, 12, 13, 14, 3, 15, 16, 17, 18] rfl rfl rfl rfl hl.1 rfl (Nat.le_of_ble_eq_true rfl) dX12_cheapestChoice_42 ⟨Nat.le_of_ble_eq_true rfl, Nat.le_of_ble_eq_true rfl⟩ [some 0, none, some 1, none, some 9, none, none, none, some 3, some 4, none, some 2, some 5, some 6, some 7, some 8, some 10, some 11, some 12, some 13] (of_decide_eq_true rfl) (of_decide_eq_true rfl) rfl rfl rfl (fun H locs hw_19n hP hD hS => ?_)
        refine lv_if_ne (tgt := 51) hx hb dX12_cheapestChoice_45 (of_decide_eq_true rfl) (fun c_20 => ?_) (fun c_20 => ?_)
        · have hfn := (if_neg c_20).symm.trans hfn
          refine lv_iload hx hb dX12_cheapestChoice_51 (lv_at hl 1 rfl) ?_
          refine lv_istore_n (lv' := [(1, .int s_5.2.2.1), (5, .int o_11), (4, .int s_5.2.2.1), (3, .int o_1), (2, .int s_5.2.1), (0, .ref h0)]) hx hb dX12_cheapestChoice_53 rfl hl (of_decide_eq_true rfl) rfl (fun ls hl => ?_)
          refine lv_iload hx hb dX12_cheapestChoice_54 (lv_at hl 1 rfl) ?_
          refine lv_istore_n (lv' := [(2, .int o_11), (1, .int s_5.2.2.1), (5, .int o_11), (4, .int s_5.2.2.1), (3, .int o_1), (0, .ref h0)]) hx hb dX12_cheapestChoice_56 rfl hl (of_decide_eq_true rfl) rfl (fun ls hl => ?_)
          refine lv_iinc (v := (s_5.2.2.1 + 1)) (lv' := [(4, .int (s_5.2.2.1 + 1)), (2, .int o_11), (1, .int s_5.2.2.1), (5, .int o_11), (3, .int o_1), (0, .ref h0)]) hx hb dX12_cheapestChoice_57 hl (k := 3) rfl rfl (of_decide_eq_true rfl) rfl (fun ls hl => ?_)
          refine lv_goto (tgt := 12) hx hb dX12_cheapestChoice_60 (of_decide_eq_true rfl) ?_
          exact ih_5 (s_5.2.2.1, o_11, (s_5.2.2.1 + 1), o_16.2.1, o_16.2.2.1, o_16.2.2.2.1, o_16.2.2.2.2.1, o_7, o_16.2.2.2.2.2) H locs ls hfn hP hD hS (lv_sub hl [0, 4, 1, 2, 5] rfl)
        have hfn := (if_pos c_20).symm.trans hfn
        refine lv_goto (tgt := 57) hx hb dX12_cheapestChoice_48 (of_decide_eq_true rfl) ?_
        refine lv_iinc (v := (s_5.2.2.1 + 1)) (lv' := [(4, .int (s_5.2.2.1 + 1)), (5, .int o_11), (3, .int o_1), (2, .int s_5.2.1), (1, .int s_5.1), (0, .ref h0)]) hx hb dX12_cheapestChoice_57 hl (k := 1) rfl rfl (of_decide_eq_true rfl) rfl (fun ls hl => ?_)
        refine lv_goto (tgt := 12) hx hb dX12_cheapestChoice_60 (of_decide_eq_true rfl) ?_
        exact ih_5 (s_5.1, s_5.2.1, (s_5.2.2.1 + 1), o_16.2.1, o_16.2.2.1, o_16.2.2.2.1, o_16.2.2.2.2.1, o_7, o_16.2.2.2.2.2) H locs ls hfn hP hD hS (lv_sub hl [0, 2, 3, 4, 5] rfl)
      refine lv_icmp_eq (tgt := 41) hx hb dX12_cheapestChoice_32 (of_decide_eq_true rfl) (fun c_21 => ?_) (fun c_21 => ?_)
      · have hfn := (if_pos c_21).symm.trans hfn
        exact jp_15 () H locs ls hfn hP hD hS (lv_sub hl [0, 1, 2, 3, 4, 5] rfl)
      have hfn := (if_neg c_21).symm.trans hfn
      refine lv_iload hx hb dX12_cheapestChoice_35 (lv_at hl 0 rfl) ?_
      refine lv_iload_n hx hb dX12_cheapestChoice_37 rfl (lv_at hl 3 rfl) ?_
      refine lv_icmp_ge (tgt := 57) hx hb dX12_cheapestChoice_38 (of_decide_eq_true rfl) (fun c_22 => ?_) (fun c_22 => ?_)
      · have hfn := (if_pos c_22).symm.trans hfn
        refine lv_iinc (v := (s_5.2.2.1 + 1)) (lv' := [(4, .int (s_5.2.2.1 + 1)), (5, .int o_11), (3, .int o_1), (2, .int s_5.2.1), (1, .int s_5.1), (0, .ref h0)]) hx hb dX12_cheapestChoice_57 hl (k := 1) rfl rfl (of_decide_eq_true rfl) rfl (fun ls hl => ?_)
        refine lv_goto (tgt := 12) hx hb dX12_cheapestChoice_60 (of_decide_eq_true rfl) ?_
        exact ih_5 (s_5.1, s_5.2.1, (s_5.2.2.1 + 1), s_5.2.2.2.1, s_5.2.2.2.2.1, s_5.2.2.2.2.2.1, s_5.2.2.2.2.2.2.1, o_7, s_5.2.2.2.2.2.2.2.2) H locs ls hfn hP hD hS (lv_sub hl [0, 2, 3, 4, 5] rfl)
      have hfn := (if_neg c_22).symm.trans hfn
      exact jp_15 () H locs ls hfn hP hD hS (lv_sub hl [0, 1, 2, 3, 4, 5] rfl)
  exact lp_5 _ ((-1), 0, 0, (b0 41), (b0 42), f12, f15, f4, f17) H locs ls hfn hP hD hS (lv_sub hl [0, 1, 2, 3, 4] rfl)
theorem zn_X12_cheapest_X12 : ∀ w ∈ wsX120, w ∈ wsX12_cheapest := fun _ h => List.mem_cons_of_mem _ (List.mem_append_right _ h)
theorem zw_X12_cheapest_1230 : Cond.fieldLink RX12 132 "ShortEnoughModel" "tried" "[I" ∈ wsX12_cheapest := List.mem_of_getElem? (i := 1) (by decide +kernel)
set_option maxHeartbeats 4000000 in
set_option maxRecDepth 100000 in
theorem zf_X12_cheapest (l : Launch) (dC : Nat → ClassId) (dI : Nat → Nat → Nat) (h0 : Nat) (p1 : Int32) (a0 : Nat → Nat) (b0 : Nat → Int32) (c0 : Nat → Int64) (k1 : Nat) (f1 : Nat → Int32) (k2 : Nat) (f2 : Nat → Int32) (k3 : Nat) (f3 : Nat → Int32) (k4 : Nat) (f4 : Nat → Int32) (k5 : Nat) (f5 : Nat → Int32) (k6 : Nat) (f6 : Nat → Int32) (k7 : Nat) (f7 : Nat → Int32) (k8 : Nat) (f8 : Nat → Int32) (k9 : Nat) (f9 : Nat → Int32) (k10 : Nat) (f10 : Nat → Int32) (k11 : Nat) (f11 : Nat → Int32) (k12 : Nat) (f12 : Nat → Int32) (k13 : Nat) (f13 : Nat → Int64) (k14 : Nat) (f14 : Nat → Int64) (k15 : Nat) (f15 : Nat → Int64) (k16 : Nat) (f16 : Nat → Int64) (k17 : Nat) (f17 : Nat → Int32) (k18 : Nat) (f18 : Nat → Int64) (k19 : Nat) (f19 : Nat → Int32) (k20 : Nat) (f20 : Nat → Int32) (o : Int32 × Int32 × Int32 × Int32 × Int32 × (Nat → Int32) × (Nat → Int32) × (Nat → Int64) × (Nat → Int64) × (Nat → Int64)) (hfn : fn_X12_cheapest p1 (c0 34) (b0 38) (b0 41) (b0 42) f1 f2 f3 f4 f5 f6 f7 f8 f9 f10 f11 f12 f13 f14 f15 f16 f17 f18 f19 f20 = some o) (sz : Nat) : zMi l yX12_cheapest wsX12_cheapest ({ frames := 6, cells := 0, slots := 0, locals := 159 }) (dC, dI) vwCl [.ref h0, .int p1] [(h0, .inr (12, zO a0 b0 c0)), zVi (a0 17) k1 2 f1, zVi (a0 27) k2 28 f2, zVi (a0 25) k3 28 f3, zVi (a0 29) k4 14 f4, zVi (a0 12) k5 2 f5, zVi (a0 37) k6 14 f6, zVi (a0 39) k7 14 f7, zVi (a0 24) k8 2 f8, zVi (a0 20) k9 28 f9, zVi (a0 21) k10 28 f10, zVi (a0 16) k11 8 f11, zVi (a0 19) k12 28 f12, zVl (a0 31) k13 14 f13, zVl (a0 22) k14 28 f14, zVl (a0 23) k15 28 f15, zVl (a0 32) k16 14 f16, zVi (a0 14) k17 8 f17, zVl (a0 40) k18 14 f18, zVi (a0 15) k19 8 f19, zVi (a0 26) k20 28 f20] [(k1, .int), (k2, .int), (k3, .int), (k4, .int), (k5, .int), (k6, .int), (k7, .int), (k8, .int), (k9, .int), (k10, .int), (k11, .int), (k12, .int), (k13, .long), (k14, .long), (k15, .long), (k16, .long), (k17, .int), (k18, .long), (k19, .int), (k20, .int)] (fun r _ => r = o.1) [(h0, .inr (12, zO a0 (zI (zI (zI (zI b0 30 o.2.1) 33 o.2.2.1) 41 o.2.2.2.1) 42 o.2.2.2.2.1) c0)), zVi (a0 17) k1 2 f1, zVi (a0 27) k2 28 f2, zVi (a0 25) k3 28 f3, zVi (a0 29) k4 14 o.2.2.2.2.2.1, zVi (a0 12) k5 2 f5, zVi (a0 37) k6 14 f6, zVi (a0 39) k7 14 o.2.2.2.2.2.2.1, zVi (a0 24) k8 2 f8, zVi (a0 20) k9 28 f9, zVi (a0 21) k10 28 f10, zVi (a0 16) k11 8 f11, zVi (a0 19) k12 28 f12, zVl (a0 31) k13 14 o.2.2.2.2.2.2.2.1, zVl (a0 22) k14 28 f14, zVl (a0 23) k15 28 f15, zVl (a0 32) k16 14 o.2.2.2.2.2.2.2.2.1, zVi (a0 14) k17 8 f17, zVl (a0 40) k18 14 o.2.2.2.2.2.2.2.2.2, zVi (a0 15) k19 8 f19, zVi (a0 26) k20 28 f20] [(k1, .int), (k2, .int), (k3, .int), (k4, .int), (k5, .int), (k6, .int), (k7, .int), (k8, .int), (k9, .int), (k10, .int), (k11, .int), (k12, .int), (k13, .long), (k14, .long), (k15, .long), (k16, .long), (k17, .int), (k18, .long), (k19, .int), (k20, .int)] sz := by
  refine zgoi (cc := cX12_cheapest) (maxL := 3) (ret := (some .int)) (C0 := RX12) (lv0 := [(0, .ref h0), (1, .int p1)]) zpl_X12 rfl rfl rfl (Nat.le_of_ble_eq_true rfl) ?_
  intro p e s m below meth c A ls Q hx hb hr hts hown hlocks hml hP hK hD hA hS hl hQ
  unfold fn_X12_cheapest at hfn
  refine lv_aload_n hx hb dX12_cheapest_0 rfl (lv_at hl 0 rfl) ?_
  obtain ⟨o_1, hqo_1, hfn⟩ := zb_s hfn
  refine zcVb (ci := 12) (rest := []) (pc' := 4) (ws' := [(h0, .inr (12, zO a0 (zI (zI b0 30 o_1.2.1) 33 o_1.2.2.1) c0)), zVi (a0 17) k1 2 f1, zVi (a0 27) k2 28 f2, zVi (a0 25) k3 28 f3, zVi (a0 29) k4 14 o_1.2.2.2, zVi (a0 12) k5 2 f5, zVi (a0 37) k6 14 f6, zVi (a0 39) k7 14 f7, zVi (a0 24) k8 2 f8, zVi (a0 20) k9 28 f9, zVi (a0 21) k10 28 f10, zVi (a0 16) k11 8 f11, zVi (a0 19) k12 28 f12, zVl (a0 31) k13 14 f13, zVl (a0 22) k14 28 f14, zVl (a0 23) k15 28 f15, zVl (a0 32) k16 14 f16, zVi (a0 14) k17 8 f17, zVl (a0 40) k18 14 f18, zVi (a0 15) k19 8 f19, zVi (a0 26) k20 28 f20]) hP hK hD hS hA ⟨hx, hb, hml, hown, hts⟩ (zf_X12_canSearch l dC dI h0 a0 b0 c0 k1 f1 k2 f2 k3 f3 k4 f4 o_1 hqo_1 s.heap.size) (cwV 0 hts gX12_cheapest_X12_canSearch rfl rfl rfl zhd_X12_canSearch ⟨Nat.le_of_ble_eq_true rfl, Nat.le_of_ble_eq_true rfl⟩) [0, 1, 2, 3, 4] rfl (of_decide_eq_true rfl) [0, 1, 2, 3] rfl rfl rfl rfl hl.1 rfl (Nat.le_of_ble_eq_true rfl) dX12_cheapest_1 ⟨Nat.le_of_ble_eq_true rfl, Nat.le_of_ble_eq_true rfl⟩ [some 0, some 1, some 2, some 3, some 4] (of_decide_eq_true rfl) (of_decide_eq_true rfl) rfl rfl rfl (fun H locs hw_4n hP hD hS => ?_)
  refine lv_if_eq (tgt := 20) hx hb dX12_cheapest_4 (of_decide_eq_true rfl) (fun c_5 => ?_) (fun c_5 => ?_)
  · have hfn := (if_pos c_5).symm.trans hfn
    refine lv_iconst (v := (-1)) hx hb dX12_cheapest_20 zci_m1 ?_
    have ho := Option.some.inj hfn
    subst ho
    exact zri hx hb hr hK hP hD hS hQ rfl hlocks dX12_cheapest_21
  have hfn := (if_neg c_5).symm.trans hfn
  refine lv_iload_n hx hb dX12_cheapest_7 rfl (lv_at hl 1 rfl) ?_
  refine lv_iconst (v := (-1)) hx hb dX12_cheapest_8 zci_m1 ?_
  obtain ⟨j_6, ej_6, hfn⟩ := zj_g hfn
  have jp_6 : ∀ (s_6 : Unit) (H : Heap) (locs : List Loc) (ls : Array Slot), j_6 s_6 = some o → va_P (dC, dI) vwCl [(h0, .inr (12, zO a0 (zI (zI b0 30 o_1.2.1) 33 o_1.2.2.1) c0)), zVi (a0 17) k1 2 f1, zVi (a0 27) k2 28 f2, zVi (a0 25) k3 28 f3, zVi (a0 29) k4 14 o_1.2.2.2, zVi (a0 12) k5 2 f5, zVi (a0 37) k6 14 f6, zVi (a0 39) k7 14 f7, zVi (a0 24) k8 2 f8, zVi (a0 20) k9 28 f9, zVi (a0 21) k10 28 f10, zVi (a0 16) k11 8 f11, zVi (a0 19) k12 28 f12, zVl (a0 31) k13 14 f13, zVl (a0 22) k14 28 f14, zVl (a0 23) k15 28 f15, zVl (a0 32) k16 14 f16, zVi (a0 14) k17 8 f17, zVl (a0 40) k18 14 f18, zVi (a0 15) k19 8 f19, zVi (a0 26) k20 28 f20] H → va_D A [(h0, .inr (12, zO a0 (zI (zI b0 30 o_1.2.1) 33 o_1.2.2.1) c0)), zVi (a0 17) k1 2 f1, zVi (a0 27) k2 28 f2, zVi (a0 25) k3 28 f3, zVi (a0 29) k4 14 o_1.2.2.2, zVi (a0 12) k5 2 f5, zVi (a0 37) k6 14 f6, zVi (a0 39) k7 14 f7, zVi (a0 24) k8 2 f8, zVi (a0 20) k9 28 f9, zVi (a0 21) k10 28 f10, zVi (a0 16) k11 8 f11, zVi (a0 19) k12 28 f12, zVl (a0 31) k13 14 f13, zVl (a0 22) k14 28 f14, zVl (a0 23) k15 28 f15, zVl (a0 32) k16 14 f16, zVi (a0 14) k17 8 f17, zVl (a0 40) k18 14 f18, zVi (a0 15) k19 8 f19, zVi (a0 26) k20 28 f20] → va_S A s.heap H locs → lv_has ls 3 [(0, .ref h0), (1, .int p1)] → W p l e (headSpec wsX12_cheapest ({ frames := 6, cells := 0, slots := 0, locals := 159 })).room s m ([.ref h0, .int p1] : List Value).toArray below meth c H locs 0 0 Q (F0 m 22 ls []) := by
    intro s_6 H locs ls hfn hP hD hS hl
    have hfn := zj_s ej_6 hfn
    refine lv_aload_n hx hb dX12_cheapest_22 rfl (lv_at hl 0 rfl) ?_
    obtain ⟨o_7, hqo_7, hfn⟩ := zb_s hfn
    refine zcVi (ci := 12) (rest := []) (pc' := 26) (ws' := [(h0, .inr (12, zO a0 (zI (zI (zI (zI b0 30 o_1.2.1) 33 o_1.2.2.1) 41 o_7.2.1) 42 o_7.2.2.1) c0)), zVi (a0 17) k1 2 f1, zVi (a0 27) k2 28 f2, zVi (a0 25) k3 28 f3, zVi (a0 29) k4 14 o_1.2.2.2, zVi (a0 12) k5 2 f5, zVi (a0 37) k6 14 f6, zVi (a0 39) k7 14 o_7.2.2.2.1, zVi (a0 24) k8 2 f8, zVi (a0 20) k9 28 f9, zVi (a0 21) k10 28 f10, zVi (a0 16) k11 8 f11, zVi (a0 19) k12 28 f12, zVl (a0 31) k13 14 o_7.2.2.2.2.1, zVl (a0 22) k14 28 f14, zVl (a0 23) k15 28 f15, zVl (a0 32) k16 14 o_7.2.2.2.2.2.1, zVi (a0 14) k17 8 f17, zVl (a0 40) k18 14 o_7.2.2.2.2.2.2, zVi (a0 15) k19 8 f19, zVi (a0 26) k20 28 f20]) hP hK hD hS hA ⟨hx, hb, hml, hown, hts⟩ (zf_X12_cheapestChoice l dC dI h0 a0 (zI (zI b0 30 o_1.2.1) 33 o_1.2.2.1) c0 k5 f5 k1 f1 k6 f6 k7 f7 k4 o_1.2.2.2 k2 f2 k8 f8 k9 f9 k10 f10 k11 f11 k12 f12 k13 f13 k14 f14 k15 f15 k16 f16 k17 f17 k18 f18 k19 f19 k20 f20 o_7 hqo_7 H.size) (cwV 0 hts gX12_cheapest_X12_cheapestChoice rfl rfl rfl zhd_X12_cheapestChoice ⟨Nat.le_of_ble_eq_true rfl, Nat.le_of_ble_eq_true rfl⟩) [0, 5, 1, 6, 7, 4, 2, 8, 9, 10, 11, 12, 13, 14, 15, 16, 17, 18, 19, 20] rfl (of_decide_eq_true rfl) [4, 0, 5, 6, 3, 1, 7, 8, 9, 10, 11, 12, 13, 14, 15, 16, 17, 18, 19] rfl rfl rfl rfl hl.1 rfl (Nat.le_of_ble_eq_true rfl) dX12_cheapest_23 ⟨Nat.le_of_ble_eq_true rfl, Nat.le_of_ble_eq_true rfl⟩ [some 0, some 2, some 6, none, some 5, some 1, some 3, some 4, some 7, some 8, some 9, some 10, some 11, some 12, some 13, some 14, some 15, some 16, some 17, some 18, some 19] (of_decide_eq_true rfl) (of_decide_eq_true rfl) rfl rfl rfl (fun H locs hP hD hS => ?_)
    refine lv_istore_n (lv' := [(2, .int o_7.1), (0, .ref h0), (1, .int p1)]) hx hb dX12_cheapest_26 rfl hl (of_decide_eq_true rfl) rfl (fun ls hl => ?_)
    refine lv_iload_n hx hb dX12_cheapest_27 rfl (lv_at hl 0 rfl) ?_
    refine lv_iconst (v := (-1)) hx hb dX12_cheapest_28 zci_m1 ?_
    refine lv_icmp_ne (tgt := 34) hx hb dX12_cheapest_29 (of_decide_eq_true rfl) (fun c_11 => ?_) (fun c_11 => ?_)
    · have hfn := (if_neg c_11).symm.trans hfn
      refine lv_aload_n hx hb dX12_cheapest_34 rfl (lv_at hl 1 rfl) ?_
      refine lv_iload_n hx hb dX12_cheapest_35 rfl (lv_at hl 0 rfl) ?_
      obtain ⟨o_12, hqo_12, hfn⟩ := zb_s hfn
      refine zcVv (ci := 12) (rest := []) (pc' := 39) (ws' := [(h0, .inr (12, zO a0 (zI (zI (zI (zI b0 30 o_1.2.1) 33 o_1.2.2.1) 41 o_7.2.1) 42 o_7.2.2.1) c0)), zVi (a0 17) k1 2 f1, zVi (a0 27) k2 28 f2, zVi (a0 25) k3 28 f3, zVi (a0 29) k4 14 o_1.2.2.2, zVi (a0 12) k5 2 f5, zVi (a0 37) k6 14 f6, zVi (a0 39) k7 14 o_12, zVi (a0 24) k8 2 f8, zVi (a0 20) k9 28 f9, zVi (a0 21) k10 28 f10, zVi (a0 16) k11 8 f11, zVi (a0 19) k12 28 f12, zVl (a0 31) k13 14 o_7.2.2.2.2.1, zVl (a0 22) k14 28 f14, zVl (a0 23) k15 28 f15, zVl (a0 32) k16 14 o_7.2.2.2.2.2.1, zVi (a0 14) k17 8 f17, zVl (a0 40) k18 14 o_7.2.2.2.2.2.2, zVi (a0 15) k19 8 f19, zVi (a0 26) k20 28 f20]) hP hK hD hS hA ⟨hx, hb, hml, hown, hts⟩ (zf_X12_triesChoice l dC dI h0 o_7.1 a0 (zI (zI (zI (zI b0 30 o_1.2.1) 33 o_1.2.2.1) 41 o_7.2.1) 42 o_7.2.2.1) c0 k1 f1 k6 f6 k7 o_7.2.2.2.1 k4 o_1.2.2.2 k5 f5 k2 f2 o_12 hqo_12 H.size) (cwV 1 hts gX12_cheapest_X12_triesChoice rfl rfl rfl zhd_X12_triesChoice ⟨Nat.le_of_ble_eq_true rfl, Nat.le_of_ble_eq_true rfl⟩) [0, 1, 6, 7, 4, 5, 2] rfl (of_decide_eq_true rfl) [0, 5, 6, 3, 4, 1] rfl rfl rfl rfl hl.1 rfl (Nat.le_of_ble_eq_true rfl) dX12_cheapest_36 ⟨Nat.le_of_ble_eq_true rfl, Nat.le_of_ble_eq_true rfl⟩ [some 0, some 1, some 6, none, some 4, some 5, some 2, some 3] (of_decide_eq_true rfl) (of_decide_eq_true rfl) rfl rfl rfl (fun H locs hP hD hS => ?_)
      refine lv_iload_n hx hb dX12_cheapest_39 rfl (lv_at hl 2 rfl) ?_
      refine lv_iconst (v := (-1)) hx hb dX12_cheapest_40 zci_m1 ?_
      refine lv_icmp_ne (tgt := 51) hx hb dX12_cheapest_41 (of_decide_eq_true rfl) (fun c_16 => ?_) (fun c_16 => ?_)
      · have hfn := (if_neg c_16).symm.trans hfn
        refine lv_aload_n hx hb dX12_cheapest_51 rfl (lv_at hl 1 rfl) ?_
        refine va_get (D := (dC, dI)) (ci := 12) (v := .ref (a0 39)) (C := RX12) (T := TX12) (N := 67) hx hb hts zn_X12_cheapest_X12 hown hK hP 0 rfl rfl 39 (of_decide_eq_true rfl) (hts (.fieldLink RX12 132 "ShortEnoughModel" "tried" "[I") zw_X12_cheapest_1230) (fun _ h9 => h9) rfl dX12_cheapest_52 ?_
        refine lv_iload_n hx hb dX12_cheapest_55 rfl (lv_at hl 2 rfl) ?_
        obtain ⟨h_17, hfn⟩ := zg_s hfn
        refine va_iald hx hb hK hP 7 6 rfl rfl h_17 dX12_cheapest_56 ?_
        have ho := Option.some.inj hfn
        subst ho
        exact zri hx hb hr hK hP hD hS hQ rfl hlocks dX12_cheapest_57
      have hfn := (if_pos c_16).symm.trans hfn
      refine lv_aload_n hx hb dX12_cheapest_44 rfl (lv_at hl 1 rfl) ?_
      obtain ⟨o_18, hqo_18, hfn⟩ := zb_s hfn
      refine zcVi (ci := 12) (rest := []) (pc' := 48) (ws' := [(h0, .inr (12, zO a0 (zI (zI (zI (zI b0 30 o_1.2.1) 33 o_1.2.2.1) 41 o_7.2.1) 42 o_7.2.2.1) c0)), zVi (a0 17) k1 2 f1, zVi (a0 27) k2 28 f2, zVi (a0 25) k3 28 f3, zVi (a0 29) k4 14 o_1.2.2.2, zVi (a0 12) k5 2 f5, zVi (a0 37) k6 14 f6, zVi (a0 39) k7 14 o_12, zVi (a0 24) k8 2 f8, zVi (a0 20) k9 28 f9, zVi (a0 21) k10 28 f10, zVi (a0 16) k11 8 f11, zVi (a0 19) k12 28 f12, zVl (a0 31) k13 14 o_7.2.2.2.2.1, zVl (a0 22) k14 28 f14, zVl (a0 23) k15 28 f15, zVl (a0 32) k16 14 o_7.2.2.2.2.2.1, zVi (a0 14) k17 8 f17, zVl (a0 40) k18 14 o_7.2.2.2.2.2.2, zVi (a0 15) k19 8 f19, zVi (a0 26) k20 28 f20]) hP hK hD hS hA ⟨hx, hb, hml, hown, hts⟩ (zf_X12_costTried l dC dI h0 a0 (zI (zI (zI (zI b0 30 o_1.2.1) 33 o_1.2.2.1) 41 o_7.2.1) 42 o_7.2.2.1) c0 k8 f8 k1 f1 k9 f9 k7 o_12 k10 f10 k11 f11 o_18 hqo_18 H.size) (cwV 0 hts gX12_cheapest_X12_costTried rfl rfl rfl zhd_X12_costTried ⟨Nat.le_of_ble_eq_true rfl, Nat.le_of_ble_eq_true rfl⟩) [0, 8, 1, 9, 7, 10, 11] rfl (of_decide_eq_true rfl) [7, 0, 8, 6, 9, 10] rfl rfl rfl rfl hl.1 rfl (Nat.le_of_ble_eq_true rfl) dX12_cheapest_45 ⟨Nat.le_of_ble_eq_true rfl, Nat.le_of_ble_eq_true rfl⟩ [some 0, some 2, none, none, none, none, none, some 4, some 1, some 3, some 5, some 6] (of_decide_eq_true rfl) (of_decide_eq_true rfl) rfl rfl rfl (fun H locs hP hD hS => ?_)
      refine lv_goto (tgt := 57) hx hb dX12_cheapest_48 (of_decide_eq_true rfl) ?_
      have ho := Option.some.inj hfn
      subst ho
      exact zri hx hb hr hK hP hD hS hQ rfl hlocks dX12_cheapest_57
    have hfn := (if_pos c_11).symm.trans hfn
    refine lv_iconst (v := (-1)) hx hb dX12_cheapest_32 zci_m1 ?_
    have ho := Option.some.inj hfn
    subst ho
    exact zri hx hb hr hK hP hD hS hQ rfl hlocks dX12_cheapest_33
  refine lv_icmp_eq (tgt := 22) hx hb dX12_cheapest_9 (of_decide_eq_true rfl) (fun c_22 => ?_) (fun c_22 => ?_)
  · have hfn := (if_pos c_22).symm.trans hfn
    exact jp_6 () H locs ls hfn hP hD hS (lv_sub hl [0, 1] rfl)
  have hfn := (if_neg c_22).symm.trans hfn
  refine lv_aload_n hx hb dX12_cheapest_12 rfl (lv_at hl 0 rfl) ?_
  refine lv_iload_n hx hb dX12_cheapest_13 rfl (lv_at hl 1 rfl) ?_
  obtain ⟨o_23, hqo_23, hfn⟩ := zb_s hfn
  refine zcVb (ci := 12) (rest := []) (pc' := 17) (ws' := [(h0, .inr (12, zO a0 (zI (zI b0 30 o_1.2.1) 33 o_1.2.2.1) c0)), zVi (a0 17) k1 2 f1, zVi (a0 27) k2 28 f2, zVi (a0 25) k3 28 f3, zVi (a0 29) k4 14 o_1.2.2.2, zVi (a0 12) k5 2 f5, zVi (a0 37) k6 14 f6, zVi (a0 39) k7 14 f7, zVi (a0 24) k8 2 f8, zVi (a0 20) k9 28 f9, zVi (a0 21) k10 28 f10, zVi (a0 16) k11 8 f11, zVi (a0 19) k12 28 f12, zVl (a0 31) k13 14 f13, zVl (a0 22) k14 28 f14, zVl (a0 23) k15 28 f15, zVl (a0 32) k16 14 f16, zVi (a0 14) k17 8 f17, zVl (a0 40) k18 14 f18, zVi (a0 15) k19 8 f19, zVi (a0 26) k20 28 f20]) hP hK hD hS hA ⟨hx, hb, hml, hown, hts⟩ (zf_X12_isNumber l dC dI h0 p1 a0 (zI (zI b0 30 o_1.2.1) 33 o_1.2.2.1) c0 k1 f1 o_23 hqo_23 H.size) (cwV 1 hts gX12_cheapest_X12_isNumber rfl rfl rfl zhd_X12_isNumber ⟨Nat.le_of_ble_eq_true rfl, Nat.le_of_ble_eq_true rfl⟩) [0, 1] rfl (of_decide_eq_true rfl) [0] rfl rfl rfl rfl hl.1 rfl (Nat.le_of_ble_eq_true rfl) dX12_cheapest_14 ⟨Nat.le_of_ble_eq_true rfl, Nat.le_of_ble_eq_true rfl⟩ [some 0, some 1] (of_decide_eq_true rfl) (of_decide_eq_true rfl) rfl rfl rfl (fun H locs hw_26n hP hD hS => ?_)
  refine lv_if_ne (tgt := 22) hx hb dX12_cheapest_17 (of_decide_eq_true rfl) (fun c_27 => ?_) (fun c_27 => ?_)
  · have hfn := (if_neg c_27).symm.trans hfn
    exact jp_6 () H locs ls hfn hP hD hS (lv_sub hl [0, 1] rfl)
  have hfn := (if_pos c_27).symm.trans hfn
  refine lv_iconst (v := (-1)) hx hb dX12_cheapest_20 zci_m1 ?_
  have ho := Option.some.inj hfn
  subst ho
  exact zri hx hb hr hK hP hD hS hQ rfl hlocks dX12_cheapest_21
theorem zn_X12_passing_X12 : ∀ w ∈ wsX120, w ∈ wsX12_passing := fun _ h => List.mem_cons_of_mem _ (List.mem_append_right _ h)
theorem zw_X12_passing_1232 : Cond.fieldLink RX12 62 "ShortEnoughModel" "numbers" "[I" ∈ wsX12_passing := List.mem_of_getElem? (i := 1) (by decide +kernel)
theorem zw_X12_passing_1233 : Cond.fieldLink RX12 103 "ShortEnoughModel" "freeMany" "I" ∈ wsX12_passing := List.mem_of_getElem? (i := 2) (by decide +kernel)
theorem zw_X12_passing_1234 : Cond.fieldLink RX12 128 "ShortEnoughModel" "hasHand" "Z" ∈ wsX12_passing := List.mem_of_getElem? (i := 3) (by decide +kernel)
theorem zw_X12_passing_1235 : Cond.fieldLink RX12 112 "ShortEnoughModel" "wideNumber" "I" ∈ wsX12_passing := List.mem_of_getElem? (i := 4) (by decide +kernel)
set_option maxHeartbeats 4000000 in
set_option maxRecDepth 100000 in
theorem zf_X12_passing (l : Launch) (dC : Nat → ClassId) (dI : Nat → Nat → Nat) (h0 : Nat) (a0 : Nat → Nat) (b0 : Nat → Int32) (c0 : Nat → Int64) (k1 : Nat) (f1 : Nat → Int32) (k2 : Nat) (f2 : Nat → Int32) (k3 : Nat) (f3 : Nat → Int32) (k4 : Nat) (f4 : Nat → Int32) (k5 : Nat) (f5 : Nat → Int32) (k6 : Nat) (f6 : Nat → Int32) (k7 : Nat) (f7 : Nat → Int32) (k8 : Nat) (f8 : Nat → Int32) (k9 : Nat) (f9 : Nat → Int32) (k10 : Nat) (f10 : Nat → Int32) (k11 : Nat) (f11 : Nat → Int64) (k12 : Nat) (f12 : Nat → Int64) (k13 : Nat) (f13 : Nat → Int64) (k14 : Nat) (f14 : Nat → Int64) (k15 : Nat) (f15 : Nat → Int32) (k16 : Nat) (f16 : Nat → Int64) (k17 : Nat) (f17 : Nat → Int32) (k18 : Nat) (f18 : Nat → Int32) (o : Int32 × Int32 × Int32 × Int32 × Int32 × (Nat → Int32) × (Nat → Int32) × (Nat → Int64) × (Nat → Int64) × (Nat → Int64)) (hfn : fn_X12_passing (b0 33) (c0 34) (b0 38) (b0 41) (b0 42) f1 f2 f3 f4 f5 f6 f7 f8 f9 f10 f11 f12 f13 f14 f15 f16 f17 f18 = some o) (sz : Nat) : zMi l yX12_passing wsX12_passing ({ frames := 5, cells := 0, slots := 0, locals := 134 }) (dC, dI) vwCl [.ref h0] [(h0, .inr (12, zO a0 b0 c0)), zVi (a0 17) k1 2 f1, zVi (a0 27) k2 28 f2, zVi (a0 25) k3 28 f3, zVi (a0 29) k4 14 f4, zVi (a0 12) k5 2 f5, zVi (a0 37) k6 14 f6, zVi (a0 39) k7 14 f7, zVi (a0 19) k8 28 f8, zVi (a0 20) k9 28 f9, zVi (a0 21) k10 28 f10, zVl (a0 31) k11 14 f11, zVl (a0 22) k12 28 f12, zVl (a0 23) k13 28 f13, zVl (a0 32) k14 14 f14, zVi (a0 14) k15 8 f15, zVl (a0 40) k16 14 f16, zVi (a0 15) k17 8 f17, zVi (a0 26) k18 28 f18] [(k1, .int), (k2, .int), (k3, .int), (k4, .int), (k5, .int), (k6, .int), (k7, .int), (k8, .int), (k9, .int), (k10, .int), (k11, .long), (k12, .long), (k13, .long), (k14, .long), (k15, .int), (k16, .long), (k17, .int), (k18, .int)] (fun r _ => r = o.1) [(h0, .inr (12, zO a0 (zI (zI (zI (zI b0 30 o.2.1) 33 o.2.2.1) 41 o.2.2.2.1) 42 o.2.2.2.2.1) c0)), zVi (a0 17) k1 2 f1, zVi (a0 27) k2 28 f2, zVi (a0 25) k3 28 f3, zVi (a0 29) k4 14 o.2.2.2.2.2.1, zVi (a0 12) k5 2 f5, zVi (a0 37) k6 14 f6, zVi (a0 39) k7 14 o.2.2.2.2.2.2.1, zVi (a0 19) k8 28 f8, zVi (a0 20) k9 28 f9, zVi (a0 21) k10 28 f10, zVl (a0 31) k11 14 o.2.2.2.2.2.2.2.1, zVl (a0 22) k12 28 f12, zVl (a0 23) k13 28 f13, zVl (a0 32) k14 14 o.2.2.2.2.2.2.2.2.1, zVi (a0 14) k15 8 f15, zVl (a0 40) k16 14 o.2.2.2.2.2.2.2.2.2, zVi (a0 15) k17 8 f17, zVi (a0 26) k18 28 f18] [(k1, .int), (k2, .int), (k3, .int), (k4, .int), (k5, .int), (k6, .int), (k7, .int), (k8, .int), (k9, .int), (k10, .int), (k11, .long), (k12, .long), (k13, .long), (k14, .long), (k15, .int), (k16, .long), (k17, .int), (k18, .int)] sz := by
  refine zgoi (cc := cX12_passing) (maxL := 4) (ret := (some .int)) (C0 := RX12) (lv0 := [(0, .ref h0)]) zpl_X12 rfl rfl rfl (Nat.le_of_ble_eq_true rfl) ?_
  intro p e s m below meth c A ls Q hx hb hr hts hown hlocks hml hP hK hD hA hS hl hQ
  unfold fn_X12_passing at hfn
  refine lv_aload_n hx hb dX12_passing_0 rfl (lv_at hl 0 rfl) ?_
  obtain ⟨o_1, hqo_1, hfn⟩ := zb_s hfn
  refine zcVv (ci := 12) (rest := []) (pc' := 4) (ws' := [(h0, .inr (12, zO a0 (zI b0 30 o_1.1) c0)), zVi (a0 17) k1 2 f1, zVi (a0 27) k2 28 f2, zVi (a0 25) k3 28 f3, zVi (a0 29) k4 14 o_1.2, zVi (a0 12) k5 2 f5, zVi (a0 37) k6 14 f6, zVi (a0 39) k7 14 f7, zVi (a0 19) k8 28 f8, zVi (a0 20) k9 28 f9, zVi (a0 21) k10 28 f10, zVl (a0 31) k11 14 f11, zVl (a0 22) k12 28 f12, zVl (a0 23) k13 28 f13, zVl (a0 32) k14 14 f14, zVi (a0 14) k15 8 f15, zVl (a0 40) k16 14 f16, zVi (a0 15) k17 8 f17, zVi (a0 26) k18 28 f18]) hP hK hD hS hA ⟨hx, hb, hml, hown, hts⟩ (zf_X12_laysFree l dC dI h0 a0 b0 c0 k1 f1 k2 f2 k3 f3 k4 f4 o_1 hqo_1 s.heap.size) (cwV 0 hts gX12_passing_X12_laysFree rfl rfl rfl zhd_X12_laysFree ⟨Nat.le_of_ble_eq_true rfl, Nat.le_of_ble_eq_true rfl⟩) [0, 1, 2, 3, 4] rfl (of_decide_eq_true rfl) [0, 1, 2, 3] rfl rfl rfl rfl hl.1 rfl (Nat.le_of_ble_eq_true rfl) dX12_passing_1 ⟨Nat.le_of_ble_eq_true rfl, Nat.le_of_ble_eq_true rfl⟩ [some 0, some 1, some 2, some 3, some 4] (of_decide_eq_true rfl) (of_decide_eq_true rfl) rfl rfl rfl (fun H locs hP hD hS => ?_)
  refine lv_aload_n hx hb dX12_passing_4 rfl (lv_at hl 0 rfl) ?_
  refine va_get (D := (dC, dI)) (ci := 12) (v := .ref (a0 17)) (C := RX12) (T := TX12) (N := 67) hx hb hts zn_X12_passing_X12 hown hK hP 0 rfl rfl 17 (of_decide_eq_true rfl) (hts (.fieldLink RX12 62 "ShortEnoughModel" "numbers" "[I") zw_X12_passing_1232) (fun _ h9 => h9) rfl dX12_passing_5 ?_
  refine lv_iconst (v := 0) hx hb dX12_passing_8 zci_0 ?_
  refine va_iald hx hb hK hP 1 0 rfl rfl (zv_in (by decide +kernel)) dX12_passing_9 ?_
  refine lv_if_eq (tgt := 21) hx hb dX12_passing_10 (of_decide_eq_true rfl) (fun c_5 => ?_) (fun c_5 => ?_)
  · have hfn := (if_pos c_5).symm.trans hfn
    refine lv_iconst (v := (-1)) hx hb dX12_passing_21 zci_m1 ?_
    have ho := Option.some.inj hfn
    subst ho
    exact zri hx hb hr hK hP hD hS hQ rfl hlocks dX12_passing_22
  have hfn := (if_neg c_5).symm.trans hfn
  refine lv_aload_n hx hb dX12_passing_13 rfl (lv_at hl 0 rfl) ?_
  refine va_get (D := (dC, dI)) (ci := 12) (v := .int o_1.1) (C := RX12) (T := TX12) (N := 67) hx hb hts zn_X12_passing_X12 hown hK hP 0 rfl rfl 30 (of_decide_eq_true rfl) (hts (.fieldLink RX12 103 "ShortEnoughModel" "freeMany" "I") zw_X12_passing_1233) (fun _ h9 => h9) rfl dX12_passing_14 ?_
  refine lv_iconst (v := 5) hx hb dX12_passing_17 zci_5 ?_
  refine lv_icmp_le (tgt := 23) hx hb dX12_passing_18 (of_decide_eq_true rfl) (fun c_6 => ?_) (fun c_6 => ?_)
  · have hfn := (if_pos c_6).symm.trans hfn
    refine lv_aload_n hx hb dX12_passing_23 rfl (lv_at hl 0 rfl) ?_
    refine va_get (D := (dC, dI)) (ci := 12) (v := .int (b0 38)) (C := RX12) (T := TX12) (N := 67) hx hb hts zn_X12_passing_X12 hown hK hP 0 rfl rfl 38 (of_decide_eq_true rfl) (hts (.fieldLink RX12 128 "ShortEnoughModel" "hasHand" "Z") zw_X12_passing_1234) (fun _ h9 => h9) rfl dX12_passing_24 ?_
    refine lv_if_ne (tgt := 32) hx hb dX12_passing_27 (of_decide_eq_true rfl) (fun c_7 => ?_) (fun c_7 => ?_)
    · have hfn := (if_neg c_7).symm.trans hfn
      refine lv_aload_n hx hb dX12_passing_32 rfl (lv_at hl 0 rfl) ?_
      refine lv_iconst (v := (-1)) hx hb dX12_passing_33 zci_m1 ?_
      refine va_put (D := (dC, dI)) (ci := 12) (v := .int (-1)) (ty := .int) (C := RX12) (T := TX12) (N := 67) hx hb hts zn_X12_passing_X12 tyX12 tyX12_ok nmX12 hown hK hP hD hS 0 rfl rfl 33 (of_decide_eq_true rfl) (hts (.fieldLink RX12 112 "ShortEnoughModel" "wideNumber" "I") zw_X12_passing_1235) (fun _ h9 => h9) rfl (tyX12_ok 33 (of_decide_eq_true rfl)) rfl rfl (Nat.le_of_ble_eq_true rfl) dX12_passing_34 (fun H locs hP hD hS => ?_)
      have hP : va_P (dC, dI) vwCl [(h0, .inr (12, zO a0 (zI (zI b0 30 o_1.1) 33 (-1)) c0)), zVi (a0 17) k1 2 f1, zVi (a0 27) k2 28 f2, zVi (a0 25) k3 28 f3, zVi (a0 29) k4 14 o_1.2, zVi (a0 12) k5 2 f5, zVi (a0 37) k6 14 f6, zVi (a0 39) k7 14 f7, zVi (a0 19) k8 28 f8, zVi (a0 20) k9 28 f9, zVi (a0 21) k10 28 f10, zVl (a0 31) k11 14 f11, zVl (a0 22) k12 28 f12, zVl (a0 23) k13 28 f13, zVl (a0 32) k14 14 f14, zVi (a0 14) k15 8 f15, zVl (a0 40) k16 14 f16, zVi (a0 15) k17 8 f17, zVi (a0 26) k18 28 f18] H := hP
      have hD := zDW hD hP rfl
      refine lv_iconst (v := 0) hx hb dX12_passing_37 zci_0 ?_
      refine lv_istore_n (lv' := [(1, .int 0), (0, .ref h0)]) hx hb dX12_passing_38 rfl hl (of_decide_eq_true rfl) rfl (fun ls hl => ?_)
      refine lv_aload_n hx hb dX12_passing_39 rfl (lv_at hl 1 rfl) ?_
      obtain ⟨o_8, hqo_8, hfn⟩ := zb_s hfn
      refine zcVi (ci := 12) (rest := []) (pc' := 43) (ws' := [(h0, .inr (12, zO a0 (zI (zI b0 30 o_1.1) 33 (-1)) c0)), zVi (a0 17) k1 2 f1, zVi (a0 27) k2 28 f2, zVi (a0 25) k3 28 f3, zVi (a0 29) k4 14 o_1.2, zVi (a0 12) k5 2 f5, zVi (a0 37) k6 14 f6, zVi (a0 39) k7 14 f7, zVi (a0 19) k8 28 f8, zVi (a0 20) k9 28 f9, zVi (a0 21) k10 28 f10, zVl (a0 31) k11 14 f11, zVl (a0 22) k12 28 f12, zVl (a0 23) k13 28 f13, zVl (a0 32) k14 14 f14, zVi (a0 14) k15 8 f15, zVl (a0 40) k16 14 f16, zVi (a0 15) k17 8 f17, zVi (a0 26) k18 28 f18]) hP hK hD hS hA ⟨hx, hb, hml, hown, hts⟩ (zf_X12_allChoices l dC dI h0 a0 (zI (zI b0 30 o_1.1) 33 (-1)) c0 k5 f5 o_8 hqo_8 H.size) (cwV 0 hts gX12_passing_X12_allChoices rfl rfl rfl zhd_X12_allChoices ⟨Nat.le_of_ble_eq_true rfl, Nat.le_of_ble_eq_true rfl⟩) [0, 5] rfl (of_decide_eq_true rfl) [4] rfl rfl rfl rfl hl.1 rfl (Nat.le_of_ble_eq_true rfl) dX12_passing_40 ⟨Nat.le_of_ble_eq_true rfl, Nat.le_of_ble_eq_true rfl⟩ [some 0, none, none, none, none, some 1] (of_decide_eq_true rfl) (of_decide_eq_true rfl) rfl rfl rfl (fun H locs hP hD hS => ?_)
      refine lv_istore_n (lv' := [(2, .int o_8), (1, .int 0), (0, .ref h0)]) hx hb dX12_passing_43 rfl hl (of_decide_eq_true rfl) rfl (fun ls hl => ?_)
      refine lv_iconst (v := 0) hx hb dX12_passing_44 zci_0 ?_
      refine lv_istore_n (lv' := [(3, .int 0), (2, .int o_8), (1, .int 0), (0, .ref h0)]) hx hb dX12_passing_45 rfl hl (of_decide_eq_true rfl) rfl (fun ls hl => ?_)
      obtain ⟨bd_12, ebd_12, hfn⟩ := zl_g hfn
      have lp_12 : ∀ (n : Nat) (s_12 : Int32 × Int32 × Int32 × Int32 × (Nat → Int64) × (Nat → Int64) × (Nat → Int32) × (Nat → Int64)) (H : Heap) (locs : List Loc) (ls : Array Slot), zl bd_12 n s_12 = some o → va_P (dC, dI) vwCl [(h0, .inr (12, zO a0 (zI (zI (zI (zI b0 30 o_1.1) 33 (-1)) 41 s_12.2.2.1) 42 s_12.2.2.2.1) c0)), zVi (a0 17) k1 2 f1, zVi (a0 27) k2 28 f2, zVi (a0 25) k3 28 f3, zVi (a0 29) k4 14 o_1.2, zVi (a0 12) k5 2 f5, zVi (a0 37) k6 14 f6, zVi (a0 39) k7 14 s_12.2.2.2.2.2.2.1, zVi (a0 19) k8 28 f8, zVi (a0 20) k9 28 f9, zVi (a0 21) k10 28 f10, zVl (a0 31) k11 14 s_12.2.2.2.2.1, zVl (a0 22) k12 28 f12, zVl (a0 23) k13 28 f13, zVl (a0 32) k14 14 s_12.2.2.2.2.2.1, zVi (a0 14) k15 8 f15, zVl (a0 40) k16 14 s_12.2.2.2.2.2.2.2, zVi (a0 15) k17 8 f17, zVi (a0 26) k18 28 f18] H → va_D A [(h0, .inr (12, zO a0 (zI (zI (zI (zI b0 30 o_1.1) 33 (-1)) 41 s_12.2.2.1) 42 s_12.2.2.2.1) c0)), zVi (a0 17) k1 2 f1, zVi (a0 27) k2 28 f2, zVi (a0 25) k3 28 f3, zVi (a0 29) k4 14 o_1.2, zVi (a0 12) k5 2 f5, zVi (a0 37) k6 14 f6, zVi (a0 39) k7 14 s_12.2.2.2.2.2.2.1, zVi (a0 19) k8 28 f8, zVi (a0 20) k9 28 f9, zVi (a0 21) k10 28 f10, zVl (a0 31) k11 14 s_12.2.2.2.2.1, zVl (a0 22) k12 28 f12, zVl (a0 23) k13 28 f13, zVl (a0 32) k14 14 s_12.2.2.2.2.2.1, zVi (a0 14) k15 8 f15, zVl (a0 40) k16 14 s_12.2.2.2.2.2.2.2, zVi (a0 15) k17 8 f17, zVi (a0 26) k18 28 f18] → va_S A s.heap H locs → lv_has ls 4 [(3, .int s_12.2.1), (2, .int o_8), (1, .int s_12.1), (0, .ref h0)] → W p l e (headSpec wsX12_passing ({ frames := 5, cells := 0, slots := 0, locals := 134 })).room s m ([.ref h0] : List Value).toArray below meth c H locs 0 0 Q (F0 m 46 ls []) := by
        intro n
        induction n with
        | zero => exact fun _ _ _ _ hfn => (zl_0 hfn).elim
        | succ n ih_12 =>
          intro s_12 H locs ls hfn hP hD hS hl
          have hfn := zl_s ebd_12 hfn
          refine lv_iload_n hx hb dX12_passing_46 rfl (lv_at hl 0 rfl) ?_
          refine lv_iload_n hx hb dX12_passing_47 rfl (lv_at hl 1 rfl) ?_
          refine lv_icmp_ge (tgt := 77) hx hb dX12_passing_48 (of_decide_eq_true rfl) (fun c_13 => ?_) (fun c_13 => ?_)
          · have hfn := (if_pos c_13).symm.trans hfn
            refine lv_iload_n hx hb dX12_passing_77 rfl (lv_at hl 2 rfl) ?_
            have ho := Option.some.inj hfn
            subst ho
            exact zri hx hb hr hK hP hD hS hQ rfl hlocks dX12_passing_78
          have hfn := (if_neg c_13).symm.trans hfn
          refine lv_aload_n hx hb dX12_passing_51 rfl (lv_at hl 3 rfl) ?_
          refine lv_iload_n hx hb dX12_passing_52 rfl (lv_at hl 0 rfl) ?_
          obtain ⟨o_14, hqo_14, hfn⟩ := zb_s hfn
          refine zcVv (ci := 12) (rest := []) (pc' := 56) (ws' := [(h0, .inr (12, zO a0 (zI (zI (zI (zI b0 30 o_1.1) 33 (-1)) 41 s_12.2.2.1) 42 s_12.2.2.2.1) c0)), zVi (a0 17) k1 2 f1, zVi (a0 27) k2 28 f2, zVi (a0 25) k3 28 f3, zVi (a0 29) k4 14 o_1.2, zVi (a0 12) k5 2 f5, zVi (a0 37) k6 14 f6, zVi (a0 39) k7 14 o_14, zVi (a0 19) k8 28 f8, zVi (a0 20) k9 28 f9, zVi (a0 21) k10 28 f10, zVl (a0 31) k11 14 s_12.2.2.2.2.1, zVl (a0 22) k12 28 f12, zVl (a0 23) k13 28 f13, zVl (a0 32) k14 14 s_12.2.2.2.2.2.1, zVi (a0 14) k15 8 f15, zVl (a0 40) k16 14 s_12.2.2.2.2.2.2.2, zVi (a0 15) k17 8 f17, zVi (a0 26) k18 28 f18]) hP hK hD hS hA ⟨hx, hb, hml, hown, hts⟩ (zf_X12_triesChoice l dC dI h0 s_12.2.1 a0 (zI (zI (zI (zI b0 30 o_1.1) 33 (-1)) 41 s_12.2.2.1) 42 s_12.2.2.2.1) c0 k1 f1 k6 f6 k7 s_12.2.2.2.2.2.2.1 k4 o_1.2 k5 f5 k2 f2 o_14 hqo_14 H.size) (cwV 1 hts gX12_passing_X12_triesChoice rfl rfl rfl zhd_X12_triesChoice ⟨Nat.le_of_ble_eq_true rfl, Nat.le_of_ble_eq_true rfl⟩) [0, 1, 6, 7, 4, 5, 2] rfl (of_decide_eq_true rfl) [0, 5, 6, 3, 4, 1] rfl rfl rfl rfl hl.1 rfl (Nat.le_of_ble_eq_true rfl) dX12_passing_53 ⟨Nat.le_of_ble_eq_true rfl, Nat.le_of_ble_eq_true rfl⟩ [some 0, some 1, some 6, none, some 4, some 5, some 2, some 3] (of_decide_eq_true rfl) (of_decide_eq_true rfl) rfl rfl rfl (fun H locs hP hD hS => ?_)
          refine lv_iload_n hx hb dX12_passing_56 rfl (lv_at hl 2 rfl) ?_
          refine lv_aload_n hx hb dX12_passing_57 rfl (lv_at hl 3 rfl) ?_
          obtain ⟨o_18, hqo_18, hfn⟩ := zb_s hfn
          refine zcVb (ci := 12) (rest := [.int s_12.1]) (pc' := 61) (ws' := [(h0, .inr (12, zO a0 (zI (zI (zI (zI b0 30 o_1.1) 33 (-1)) 41 o_18.2.1) 42 o_18.2.2.1) c0)), zVi (a0 17) k1 2 f1, zVi (a0 27) k2 28 f2, zVi (a0 25) k3 28 f3, zVi (a0 29) k4 14 o_1.2, zVi (a0 12) k5 2 f5, zVi (a0 37) k6 14 f6, zVi (a0 39) k7 14 o_14, zVi (a0 19) k8 28 f8, zVi (a0 20) k9 28 f9, zVi (a0 21) k10 28 f10, zVl (a0 31) k11 14 o_18.2.2.2.1, zVl (a0 22) k12 28 f12, zVl (a0 23) k13 28 f13, zVl (a0 32) k14 14 o_18.2.2.2.2.1, zVi (a0 14) k15 8 f15, zVl (a0 40) k16 14 o_18.2.2.2.2.2, zVi (a0 15) k17 8 f17, zVi (a0 26) k18 28 f18]) hP hK hD hS hA ⟨hx, hb, hml, hown, hts⟩ (zf_X12_passes l dC dI h0 a0 (zI (zI (zI (zI b0 30 o_1.1) 33 (-1)) 41 s_12.2.2.1) 42 s_12.2.2.2.1) c0 k1 f1 k8 f8 k9 f9 k10 f10 k11 s_12.2.2.2.2.1 k12 f12 k13 f13 k14 s_12.2.2.2.2.2.1 k7 o_14 k15 f15 k16 s_12.2.2.2.2.2.2.2 k17 f17 k18 f18 o_18 hqo_18 H.size) (cwV 0 hts gX12_passing_X12_passes rfl rfl rfl zhd_X12_passes ⟨Nat.le_of_ble_eq_true rfl, Nat.le_of_ble_eq_true rfl⟩) [0, 1, 8, 9, 10, 11, 12, 13, 14, 7, 15, 16, 17, 18] rfl (of_decide_eq_true rfl) [0, 7, 8, 9, 10, 11, 12, 13, 6, 14, 15, 16, 17] rfl rfl rfl rfl hl.1 rfl (Nat.le_of_ble_eq_true rfl) dX12_passing_58 ⟨Nat.le_of_ble_eq_true rfl, Nat.le_of_ble_eq_true rfl⟩ [some 0, some 1, none, none, none, none, none, some 9, some 2, some 3, some 4, some 5, some 6, some 7, some 8, some 10, some 11, some 12, some 13] (of_decide_eq_true rfl) (of_decide_eq_true rfl) rfl rfl rfl (fun H locs hw_21n hP hD hS => ?_)
          refine lv_if_eq (tgt := 68) hx hb dX12_passing_61 (of_decide_eq_true rfl) (fun c_22 => ?_) (fun c_22 => ?_)
          · have hfn := (if_pos c_22).symm.trans hfn
            refine lv_iconst (v := 0) hx hb dX12_passing_68 zci_0 ?_
            refine lv_iadd hx hb dX12_passing_69 ?_
            refine lv_istore_n (lv' := [(1, .int (s_12.1 + 0)), (3, .int s_12.2.1), (2, .int o_8), (0, .ref h0)]) hx hb dX12_passing_70 rfl hl (of_decide_eq_true rfl) rfl (fun ls hl => ?_)
            refine lv_iinc (v := (s_12.2.1 + 1)) (lv' := [(3, .int (s_12.2.1 + 1)), (1, .int (s_12.1 + 0)), (2, .int o_8), (0, .ref h0)]) hx hb dX12_passing_71 hl (k := 1) rfl rfl (of_decide_eq_true rfl) rfl (fun ls hl => ?_)
            refine lv_goto (tgt := 46) hx hb dX12_passing_74 (of_decide_eq_true rfl) ?_
            exact ih_12 ((s_12.1 + 0), (s_12.2.1 + 1), o_18.2.1, o_18.2.2.1, o_18.2.2.2.1, o_18.2.2.2.2.1, o_14, o_18.2.2.2.2.2) H locs ls hfn hP hD hS (lv_sub hl [0, 2, 1, 3] rfl)
          have hfn := (if_neg c_22).symm.trans hfn
          refine lv_iconst (v := 1) hx hb dX12_passing_64 zci_1 ?_
          refine lv_goto (tgt := 69) hx hb dX12_passing_65 (of_decide_eq_true rfl) ?_
          refine lv_iadd hx hb dX12_passing_69 ?_
          refine lv_istore_n (lv' := [(1, .int (s_12.1 + 1)), (3, .int s_12.2.1), (2, .int o_8), (0, .ref h0)]) hx hb dX12_passing_70 rfl hl (of_decide_eq_true rfl) rfl (fun ls hl => ?_)
          refine lv_iinc (v := (s_12.2.1 + 1)) (lv' := [(3, .int (s_12.2.1 + 1)), (1, .int (s_12.1 + 1)), (2, .int o_8), (0, .ref h0)]) hx hb dX12_passing_71 hl (k := 1) rfl rfl (of_decide_eq_true rfl) rfl (fun ls hl => ?_)
          refine lv_goto (tgt := 46) hx hb dX12_passing_74 (of_decide_eq_true rfl) ?_
          exact ih_12 ((s_12.1 + 1), (s_12.2.1 + 1), o_18.2.1, o_18.2.2.1, o_18.2.2.2.1, o_18.2.2.2.2.1, o_14, o_18.2.2.2.2.2) H locs ls hfn hP hD hS (lv_sub hl [0, 2, 1, 3] rfl)
      exact lp_12 _ (0, 0, (b0 41), (b0 42), f11, f14, f7, f16) H locs ls hfn hP hD hS (lv_sub hl [0, 1, 2, 3] rfl)
    have hfn := (if_pos c_7).symm.trans hfn
    refine lv_iconst (v := 0) hx hb dX12_passing_30 zci_0 ?_
    have ho := Option.some.inj hfn
    subst ho
    exact zri hx hb hr hK hP hD hS hQ rfl hlocks dX12_passing_31
  have hfn := (if_neg c_6).symm.trans hfn
  refine lv_iconst (v := (-1)) hx hb dX12_passing_21 zci_m1 ?_
  have ho := Option.some.inj hfn
  subst ho
  exact zri hx hb hr hK hP hD hS hQ rfl hlocks dX12_passing_22
theorem zn_X12_keepsTried_X12 : ∀ w ∈ wsX120, w ∈ wsX12_keepsTried := fun _ h => List.mem_cons_of_mem _ (List.mem_append_right _ h)
theorem zw_X12_keepsTried_1237 : Cond.fieldLink RX12 62 "ShortEnoughModel" "numbers" "[I" ∈ wsX12_keepsTried := List.mem_of_getElem? (i := 1) (by decide +kernel)
theorem zw_X12_keepsTried_1238 : Cond.fieldLink RX12 144 "ShortEnoughModel" "soFar" "[I" ∈ wsX12_keepsTried := List.mem_of_getElem? (i := 2) (by decide +kernel)
theorem zw_X12_keepsTried_1239 : Cond.fieldLink RX12 132 "ShortEnoughModel" "tried" "[I" ∈ wsX12_keepsTried := List.mem_of_getElem? (i := 3) (by decide +kernel)
theorem zw_X12_keepsTried_1240 : Cond.fieldLink RX12 147 "ShortEnoughModel" "soFarCost" "I" ∈ wsX12_keepsTried := List.mem_of_getElem? (i := 4) (by decide +kernel)
set_option maxHeartbeats 4000000 in
set_option maxRecDepth 100000 in
theorem zf_X12_keepsTried (l : Launch) (dC : Nat → ClassId) (dI : Nat → Nat → Nat) (h0 : Nat) (a0 : Nat → Nat) (b0 : Nat → Int32) (c0 : Nat → Int64) (k1 : Nat) (f1 : Nat → Int32) (k2 : Nat) (f2 : Nat → Int32) (k3 : Nat) (f3 : Nat → Int32) (k4 : Nat) (f4 : Nat → Int32) (k5 : Nat) (f5 : Nat → Int32) (k6 : Nat) (f6 : Nat → Int32) (k7 : Nat) (f7 : Nat → Int32) (o : Int32 × (Nat → Int32)) (hfn : fn_X12_keepsTried f1 f2 f3 f4 f5 f6 f7 = some o) (sz : Nat) : zMv l yX12_keepsTried wsX12_keepsTried ({ frames := 3, cells := 0, slots := 0, locals := 66 }) (dC, dI) vwCl [.ref h0] [(h0, .inr (12, zO a0 b0 c0)), zVi (a0 17) k1 2 f1, zVi (a0 39) k2 14 f2, zVi (a0 43) k3 14 f3, zVi (a0 24) k4 2 f4, zVi (a0 20) k5 28 f5, zVi (a0 21) k6 28 f6, zVi (a0 16) k7 8 f7] [(k1, .int), (k2, .int), (k3, .int), (k4, .int), (k5, .int), (k6, .int), (k7, .int)] (fun _ => True) [(h0, .inr (12, zO a0 (zI b0 44 o.1) c0)), zVi (a0 17) k1 2 f1, zVi (a0 39) k2 14 f2, zVi (a0 43) k3 14 o.2, zVi (a0 24) k4 2 f4, zVi (a0 20) k5 28 f5, zVi (a0 21) k6 28 f6, zVi (a0 16) k7 8 f7] [(k1, .int), (k2, .int), (k3, .int), (k4, .int), (k5, .int), (k6, .int), (k7, .int)] sz := by
  refine zgov (cc := cX12_keepsTried) (maxL := 2) (ret := none) (C0 := RX12) (lv0 := [(0, .ref h0)]) zpl_X12 rfl rfl rfl (Nat.le_of_ble_eq_true rfl) ?_
  intro p e s m below meth c A ls Q hx hb hr hts hown hlocks hml hP hK hD hA hS hl hQ
  unfold fn_X12_keepsTried at hfn
  refine lv_iconst (v := 0) hx hb dX12_keepsTried_0 zci_0 ?_
  refine lv_istore_n (lv' := [(1, .int 0), (0, .ref h0)]) hx hb dX12_keepsTried_1 rfl hl (of_decide_eq_true rfl) rfl (fun ls hl => ?_)
  obtain ⟨bd_1, ebd_1, hfn⟩ := zl_g hfn
  have lp_1 : ∀ (n : Nat) (s_1 : Int32 × (Nat → Int32)) (H : Heap) (locs : List Loc) (ls : Array Slot), zl bd_1 n s_1 = some o → va_P (dC, dI) vwCl [(h0, .inr (12, zO a0 b0 c0)), zVi (a0 17) k1 2 f1, zVi (a0 39) k2 14 f2, zVi (a0 43) k3 14 s_1.2, zVi (a0 24) k4 2 f4, zVi (a0 20) k5 28 f5, zVi (a0 21) k6 28 f6, zVi (a0 16) k7 8 f7] H → va_D A [(h0, .inr (12, zO a0 b0 c0)), zVi (a0 17) k1 2 f1, zVi (a0 39) k2 14 f2, zVi (a0 43) k3 14 s_1.2, zVi (a0 24) k4 2 f4, zVi (a0 20) k5 28 f5, zVi (a0 21) k6 28 f6, zVi (a0 16) k7 8 f7] → va_S A s.heap H locs → lv_has ls 2 [(1, .int s_1.1), (0, .ref h0)] → W p l e (headSpec wsX12_keepsTried ({ frames := 3, cells := 0, slots := 0, locals := 66 })).room s m ([.ref h0] : List Value).toArray below meth c H locs 0 0 Q (F0 m 2 ls []) := by
    intro n
    induction n with
    | zero => exact fun _ _ _ _ hfn => (zl_0 hfn).elim
    | succ n ih_1 =>
      intro s_1 H locs ls hfn hP hD hS hl
      have hfn := zl_s ebd_1 hfn
      refine lv_iload_n hx hb dX12_keepsTried_2 rfl (lv_at hl 0 rfl) ?_
      refine lv_aload_n hx hb dX12_keepsTried_3 rfl (lv_at hl 1 rfl) ?_
      refine va_get (D := (dC, dI)) (ci := 12) (v := .ref (a0 17)) (C := RX12) (T := TX12) (N := 67) hx hb hts zn_X12_keepsTried_X12 hown hK hP 0 rfl rfl 17 (of_decide_eq_true rfl) (hts (.fieldLink RX12 62 "ShortEnoughModel" "numbers" "[I") zw_X12_keepsTried_1237) (fun _ h9 => h9) rfl dX12_keepsTried_4 ?_
      refine lv_iconst (v := 0) hx hb dX12_keepsTried_7 zci_0 ?_
      refine va_iald hx hb hK hP 1 0 rfl rfl (zv_in (by decide +kernel)) dX12_keepsTried_8 ?_
      refine lv_icmp_ge (tgt := 30) hx hb dX12_keepsTried_9 (of_decide_eq_true rfl) (fun c_2 => ?_) (fun c_2 => ?_)
      · have hfn := (if_pos c_2).symm.trans hfn
        refine lv_aload_n hx hb dX12_keepsTried_30 rfl (lv_at hl 1 rfl) ?_
        refine lv_aload_n hx hb dX12_keepsTried_31 rfl (lv_at hl 1 rfl) ?_
        obtain ⟨o_3, hqo_3, hfn⟩ := zb_s hfn
        refine zcVi (ci := 12) (rest := [.ref h0]) (pc' := 35) (ws' := [(h0, .inr (12, zO a0 b0 c0)), zVi (a0 17) k1 2 f1, zVi (a0 39) k2 14 f2, zVi (a0 43) k3 14 s_1.2, zVi (a0 24) k4 2 f4, zVi (a0 20) k5 28 f5, zVi (a0 21) k6 28 f6, zVi (a0 16) k7 8 f7]) hP hK hD hS hA ⟨hx, hb, hml, hown, hts⟩ (zf_X12_costTried l dC dI h0 a0 b0 c0 k4 f4 k1 f1 k5 f5 k2 f2 k6 f6 k7 f7 o_3 hqo_3 H.size) (cwV 0 hts gX12_keepsTried_X12_costTried rfl rfl rfl zhd_X12_costTried ⟨Nat.le_of_ble_eq_true rfl, Nat.le_of_ble_eq_true rfl⟩) [0, 4, 1, 5, 2, 6, 7] rfl (of_decide_eq_true rfl) [3, 0, 4, 1, 5, 6] rfl rfl rfl rfl hl.1 rfl (Nat.le_of_ble_eq_true rfl) dX12_keepsTried_32 ⟨Nat.le_of_ble_eq_true rfl, Nat.le_of_ble_eq_true rfl⟩ [some 0, some 2, some 4, none, some 1, some 3, some 5, some 6] (of_decide_eq_true rfl) (of_decide_eq_true rfl) rfl rfl rfl (fun H locs hP hD hS => ?_)
        refine va_put (D := (dC, dI)) (ci := 12) (v := .int o_3) (ty := .int) (C := RX12) (T := TX12) (N := 67) hx hb hts zn_X12_keepsTried_X12 tyX12 tyX12_ok nmX12 hown hK hP hD hS 0 rfl rfl 44 (of_decide_eq_true rfl) (hts (.fieldLink RX12 147 "ShortEnoughModel" "soFarCost" "I") zw_X12_keepsTried_1240) (fun _ h9 => h9) rfl (tyX12_ok 44 (of_decide_eq_true rfl)) rfl rfl (Nat.le_of_ble_eq_true rfl) dX12_keepsTried_35 (fun H locs hP hD hS => ?_)
        have hP : va_P (dC, dI) vwCl [(h0, .inr (12, zO a0 (zI b0 44 o_3) c0)), zVi (a0 17) k1 2 f1, zVi (a0 39) k2 14 f2, zVi (a0 43) k3 14 s_1.2, zVi (a0 24) k4 2 f4, zVi (a0 20) k5 28 f5, zVi (a0 21) k6 28 f6, zVi (a0 16) k7 8 f7] H := hP
        have hD := zDW hD hP rfl
        have ho := Option.some.inj hfn
        subst ho
        exact zrv hx hb hr hK hP hD hS hQ trivial hlocks dX12_keepsTried_38
      have hfn := (if_neg c_2).symm.trans hfn
      refine lv_aload_n hx hb dX12_keepsTried_12 rfl (lv_at hl 1 rfl) ?_
      refine va_get (D := (dC, dI)) (ci := 12) (v := .ref (a0 43)) (C := RX12) (T := TX12) (N := 67) hx hb hts zn_X12_keepsTried_X12 hown hK hP 0 rfl rfl 43 (of_decide_eq_true rfl) (hts (.fieldLink RX12 144 "ShortEnoughModel" "soFar" "[I") zw_X12_keepsTried_1238) (fun _ h9 => h9) rfl dX12_keepsTried_13 ?_
      refine lv_iload_n hx hb dX12_keepsTried_16 rfl (lv_at hl 0 rfl) ?_
      refine lv_aload_n hx hb dX12_keepsTried_17 rfl (lv_at hl 1 rfl) ?_
      refine va_get (D := (dC, dI)) (ci := 12) (v := .ref (a0 39)) (C := RX12) (T := TX12) (N := 67) hx hb hts zn_X12_keepsTried_X12 hown hK hP 0 rfl rfl 39 (of_decide_eq_true rfl) (hts (.fieldLink RX12 132 "ShortEnoughModel" "tried" "[I") zw_X12_keepsTried_1239) (fun _ h9 => h9) rfl dX12_keepsTried_18 ?_
      refine lv_iload_n hx hb dX12_keepsTried_21 rfl (lv_at hl 0 rfl) ?_
      obtain ⟨h_7, hfn⟩ := zg_s hfn
      refine va_iald hx hb hK hP 2 1 rfl rfl h_7 dX12_keepsTried_22 ?_
      refine va_iast hx hb hK hP hD hS 3 2 rfl rfl h_7 dX12_keepsTried_23 (fun H locs hP hD hS => ?_)
      have hP : va_P (dC, dI) vwCl [(h0, .inr (12, zO a0 b0 c0)), zVi (a0 17) k1 2 f1, zVi (a0 39) k2 14 f2, zVi (a0 43) k3 14 (upd s_1.2 s_1.1.toNatClampNeg (f2 s_1.1.toNatClampNeg)), zVi (a0 24) k4 2 f4, zVi (a0 20) k5 28 f5, zVi (a0 21) k6 28 f6, zVi (a0 16) k7 8 f7] H := hP
      have hD := zDW hD hP rfl
      refine lv_iinc (v := (s_1.1 + 1)) (lv' := [(1, .int (s_1.1 + 1)), (0, .ref h0)]) hx hb dX12_keepsTried_24 hl (k := 0) rfl rfl (of_decide_eq_true rfl) rfl (fun ls hl => ?_)
      refine lv_goto (tgt := 2) hx hb dX12_keepsTried_27 (of_decide_eq_true rfl) ?_
      exact ih_1 ((s_1.1 + 1), (upd s_1.2 s_1.1.toNatClampNeg (f2 s_1.1.toNatClampNeg))) H locs ls hfn hP hD hS (lv_sub hl [0, 1] rfl)
  exact lp_1 _ (0, f3) s.heap [] ls hfn hP hD hS (lv_sub hl [0, 1] rfl)
theorem zn_X12_isBetter_X12 : ∀ w ∈ wsX120, w ∈ wsX12_isBetter := fun _ h => List.mem_cons_of_mem _ (List.mem_append_right _ h)
theorem zw_X12_isBetter_1242 : Cond.fieldLink RX12 62 "ShortEnoughModel" "numbers" "[I" ∈ wsX12_isBetter := List.mem_of_getElem? (i := 1) (by decide +kernel)
theorem zw_X12_isBetter_1243 : Cond.fieldLink RX12 132 "ShortEnoughModel" "tried" "[I" ∈ wsX12_isBetter := List.mem_of_getElem? (i := 2) (by decide +kernel)
theorem zw_X12_isBetter_1244 : Cond.fieldLink RX12 144 "ShortEnoughModel" "soFar" "[I" ∈ wsX12_isBetter := List.mem_of_getElem? (i := 3) (by decide +kernel)
theorem zw_X12_isBetter_1245 : Cond.fieldLink RX12 100 "ShortEnoughModel" "free" "[I" ∈ wsX12_isBetter := List.mem_of_getElem? (i := 4) (by decide +kernel)
theorem zw_X12_isBetter_1246 : Cond.fieldLink RX12 156 "ShortEnoughModel" "row" "[I" ∈ wsX12_isBetter := List.mem_of_getElem? (i := 5) (by decide +kernel)
theorem zw_X12_isBetter_1247 : Cond.fieldLink RX12 150 "ShortEnoughModel" "tries" "I" ∈ wsX12_isBetter := List.mem_of_getElem? (i := 6) (by decide +kernel)
theorem zw_X12_isBetter_1248 : Cond.fieldLink RX12 147 "ShortEnoughModel" "soFarCost" "I" ∈ wsX12_isBetter := List.mem_of_getElem? (i := 7) (by decide +kernel)
theorem zw_X12_isBetter_1249 : Cond.fieldLink RX12 153 "ShortEnoughModel" "hasChanged" "[Z" ∈ wsX12_isBetter := List.mem_of_getElem? (i := 8) (by decide +kernel)
set_option maxHeartbeats 4000000 in
set_option maxRecDepth 100000 in
theorem zf_X12_isBetter (l : Launch) (dC : Nat → ClassId) (dI : Nat → Nat → Nat) (h0 : Nat) (p1 : Int32) (p2 : Int32) (p3 : Int32) (a0 : Nat → Nat) (b0 : Nat → Int32) (c0 : Nat → Int64) (k1 : Nat) (f1 : Nat → Int32) (k2 : Nat) (f2 : Nat → Int32) (k3 : Nat) (f3 : Nat → Int32) (k4 : Nat) (f4 : Nat → Int32) (k5 : Nat) (f5 : Nat → Int32) (k6 : Nat) (f6 : Nat → Int32) (k7 : Nat) (f7 : Nat → Int32) (k8 : Nat) (f8 : Nat → Int32) (k9 : Nat) (f9 : Nat → Int32) (k10 : Nat) (f10 : Nat → Int64) (k11 : Nat) (f11 : Nat → Int64) (k12 : Nat) (f12 : Nat → Int64) (k13 : Nat) (f13 : Nat → Int64) (k14 : Nat) (f14 : Nat → Int32) (k15 : Nat) (f15 : Nat → Int64) (k16 : Nat) (f16 : Nat → Int32) (k17 : Nat) (f17 : Nat → Int32) (k18 : Nat) (f18 : Nat → Int32) (k19 : Nat) (f19 : Nat → Int32) (k20 : Nat) (f20 : Nat → Int32) (o : Int32 × Int32 × Int32 × Int32 × Int32 × (Nat → Int32) × (Nat → Int32) × (Nat → Int64) × (Nat → Int64) × (Nat → Int64) × (Nat → Int32)) (hfn : fn_X12_isBetter p1 p2 p3 (b0 33) (c0 34) (b0 44) (b0 45) f1 f2 f3 f4 f5 f6 f7 f8 f9 f10 f11 f12 f13 f14 f15 f16 f17 f18 f19 f20 = some o) (sz : Nat) : zMi l yX12_isBetter wsX12_isBetter ({ frames := 5, cells := 0, slots := 0, locals := 134 }) (dC, dI) vwCl [.ref h0, .int p1, .int p2, .int p3] [(h0, .inr (12, zO a0 b0 c0)), zVi (a0 17) k1 2 f1, zVi (a0 43) k2 14 f2, zVi (a0 39) k3 14 f3, zVi (a0 47) k4 14 f4, zVi (a0 29) k5 14 f5, zVi (a0 27) k6 28 f6, zVi (a0 19) k7 28 f7, zVi (a0 20) k8 28 f8, zVi (a0 21) k9 28 f9, zVl (a0 31) k10 14 f10, zVl (a0 22) k11 28 f11, zVl (a0 23) k12 28 f12, zVl (a0 32) k13 14 f13, zVi (a0 14) k14 8 f14, zVl (a0 40) k15 14 f15, zVi (a0 15) k16 8 f16, zVi (a0 26) k17 28 f17, zVi (a0 24) k18 2 f18, zVi (a0 16) k19 8 f19, zVi (a0 46) k20 14 f20] [(k1, .int), (k2, .int), (k3, .int), (k4, .int), (k5, .int), (k6, .int), (k7, .int), (k8, .int), (k9, .int), (k10, .long), (k11, .long), (k12, .long), (k13, .long), (k14, .int), (k15, .long), (k16, .int), (k17, .int), (k18, .int), (k19, .int), (k20, .boolean)] (fun r _ => r = o.1 ∧ narrow .boolean (.int o.1) = .int o.1) [(h0, .inr (12, zO a0 (zI (zI (zI (zI b0 41 o.2.1) 42 o.2.2.1) 44 o.2.2.2.1) 45 o.2.2.2.2.1) c0)), zVi (a0 17) k1 2 f1, zVi (a0 43) k2 14 o.2.2.2.2.2.1, zVi (a0 39) k3 14 o.2.2.2.2.2.2.1, zVi (a0 47) k4 14 f4, zVi (a0 29) k5 14 f5, zVi (a0 27) k6 28 f6, zVi (a0 19) k7 28 f7, zVi (a0 20) k8 28 f8, zVi (a0 21) k9 28 f9, zVl (a0 31) k10 14 o.2.2.2.2.2.2.2.1, zVl (a0 22) k11 28 f11, zVl (a0 23) k12 28 f12, zVl (a0 32) k13 14 o.2.2.2.2.2.2.2.2.1, zVi (a0 14) k14 8 f14, zVl (a0 40) k15 14 o.2.2.2.2.2.2.2.2.2.1, zVi (a0 15) k16 8 f16, zVi (a0 26) k17 28 f17, zVi (a0 24) k18 2 f18, zVi (a0 16) k19 8 f19, zVi (a0 46) k20 14 o.2.2.2.2.2.2.2.2.2.2] [(k1, .int), (k2, .int), (k3, .int), (k4, .int), (k5, .int), (k6, .int), (k7, .int), (k8, .int), (k9, .int), (k10, .long), (k11, .long), (k12, .long), (k13, .long), (k14, .int), (k15, .long), (k16, .int), (k17, .int), (k18, .int), (k19, .int), (k20, .boolean)] sz := by
  refine zgoi (cc := cX12_isBetter) (maxL := 5) (ret := (some .boolean)) (C0 := RX12) (lv0 := [(0, .ref h0), (1, .int p1), (2, .int p2), (3, .int p3)]) zpl_X12 rfl rfl rfl (Nat.le_of_ble_eq_true rfl) ?_
  intro p e s m below meth c A ls Q hx hb hr hts hown hlocks hml hP hK hD hA hS hl hQ
  unfold fn_X12_isBetter at hfn
  refine lv_iconst (v := 0) hx hb dX12_isBetter_0 zci_0 ?_
  refine lv_istore (lv' := [(4, .int 0), (0, .ref h0), (1, .int p1), (2, .int p2), (3, .int p3)]) hx hb dX12_isBetter_1 hl (of_decide_eq_true rfl) rfl (fun ls hl => ?_)
  obtain ⟨bd_1, ebd_1, hfn⟩ := zl_g hfn
  have lp_1 : ∀ (n : Nat) (s_1 : Int32 × (Nat → Int32)) (H : Heap) (locs : List Loc) (ls : Array Slot), zl bd_1 n s_1 = some o → va_P (dC, dI) vwCl [(h0, .inr (12, zO a0 b0 c0)), zVi (a0 17) k1 2 f1, zVi (a0 43) k2 14 f2, zVi (a0 39) k3 14 s_1.2, zVi (a0 47) k4 14 f4, zVi (a0 29) k5 14 f5, zVi (a0 27) k6 28 f6, zVi (a0 19) k7 28 f7, zVi (a0 20) k8 28 f8, zVi (a0 21) k9 28 f9, zVl (a0 31) k10 14 f10, zVl (a0 22) k11 28 f11, zVl (a0 23) k12 28 f12, zVl (a0 32) k13 14 f13, zVi (a0 14) k14 8 f14, zVl (a0 40) k15 14 f15, zVi (a0 15) k16 8 f16, zVi (a0 26) k17 28 f17, zVi (a0 24) k18 2 f18, zVi (a0 16) k19 8 f19, zVi (a0 46) k20 14 f20] H → va_D A [(h0, .inr (12, zO a0 b0 c0)), zVi (a0 17) k1 2 f1, zVi (a0 43) k2 14 f2, zVi (a0 39) k3 14 s_1.2, zVi (a0 47) k4 14 f4, zVi (a0 29) k5 14 f5, zVi (a0 27) k6 28 f6, zVi (a0 19) k7 28 f7, zVi (a0 20) k8 28 f8, zVi (a0 21) k9 28 f9, zVl (a0 31) k10 14 f10, zVl (a0 22) k11 28 f11, zVl (a0 23) k12 28 f12, zVl (a0 32) k13 14 f13, zVi (a0 14) k14 8 f14, zVl (a0 40) k15 14 f15, zVi (a0 15) k16 8 f16, zVi (a0 26) k17 28 f17, zVi (a0 24) k18 2 f18, zVi (a0 16) k19 8 f19, zVi (a0 46) k20 14 f20] → va_S A s.heap H locs → lv_has ls 5 [(4, .int s_1.1), (0, .ref h0), (1, .int p1), (2, .int p2), (3, .int p3)] → W p l e (headSpec wsX12_isBetter ({ frames := 5, cells := 0, slots := 0, locals := 134 })).room s m ([.ref h0, .int p1, .int p2, .int p3] : List Value).toArray below meth c H locs 0 0 Q (F0 m 3 ls []) := by
    intro n
    induction n with
    | zero => exact fun _ _ _ _ hfn => (zl_0 hfn).elim
    | succ n ih_1 =>
      intro s_1 H locs ls hfn hP hD hS hl
      have hfn := zl_s ebd_1 hfn
      refine lv_iload hx hb dX12_isBetter_3 (lv_at hl 0 rfl) ?_
      refine lv_aload_n hx hb dX12_isBetter_5 rfl (lv_at hl 1 rfl) ?_
      refine va_get (D := (dC, dI)) (ci := 12) (v := .ref (a0 17)) (C := RX12) (T := TX12) (N := 67) hx hb hts zn_X12_isBetter_X12 hown hK hP 0 rfl rfl 17 (of_decide_eq_true rfl) (hts (.fieldLink RX12 62 "ShortEnoughModel" "numbers" "[I") zw_X12_isBetter_1242) (fun _ h9 => h9) rfl dX12_isBetter_6 ?_
      refine lv_iconst (v := 0) hx hb dX12_isBetter_9 zci_0 ?_
      refine va_iald hx hb hK hP 1 0 rfl rfl (zv_in (by decide +kernel)) dX12_isBetter_10 ?_
      refine lv_icmp_ge (tgt := 34) hx hb dX12_isBetter_11 (of_decide_eq_true rfl) (fun c_2 => ?_) (fun c_2 => ?_)
      · have hfn := (if_pos c_2).symm.trans hfn
        refine lv_iload_n hx hb dX12_isBetter_34 rfl (lv_at hl 2 rfl) ?_
        refine lv_istore (lv' := [(4, .int p1), (0, .ref h0), (1, .int p1), (2, .int p2), (3, .int p3)]) hx hb dX12_isBetter_35 hl (of_decide_eq_true rfl) rfl (fun ls hl => ?_)
        obtain ⟨bd_3, ebd_3, hfn⟩ := zl_g hfn
        have lp_3 : ∀ (n : Nat) (s_3 : Int32 × (Nat → Int32)) (H : Heap) (locs : List Loc) (ls : Array Slot), zl bd_3 n s_3 = some o → va_P (dC, dI) vwCl [(h0, .inr (12, zO a0 b0 c0)), zVi (a0 17) k1 2 f1, zVi (a0 43) k2 14 f2, zVi (a0 39) k3 14 s_3.2, zVi (a0 47) k4 14 f4, zVi (a0 29) k5 14 f5, zVi (a0 27) k6 28 f6, zVi (a0 19) k7 28 f7, zVi (a0 20) k8 28 f8, zVi (a0 21) k9 28 f9, zVl (a0 31) k10 14 f10, zVl (a0 22) k11 28 f11, zVl (a0 23) k12 28 f12, zVl (a0 32) k13 14 f13, zVi (a0 14) k14 8 f14, zVl (a0 40) k15 14 f15, zVi (a0 15) k16 8 f16, zVi (a0 26) k17 28 f17, zVi (a0 24) k18 2 f18, zVi (a0 16) k19 8 f19, zVi (a0 46) k20 14 f20] H → va_D A [(h0, .inr (12, zO a0 b0 c0)), zVi (a0 17) k1 2 f1, zVi (a0 43) k2 14 f2, zVi (a0 39) k3 14 s_3.2, zVi (a0 47) k4 14 f4, zVi (a0 29) k5 14 f5, zVi (a0 27) k6 28 f6, zVi (a0 19) k7 28 f7, zVi (a0 20) k8 28 f8, zVi (a0 21) k9 28 f9, zVl (a0 31) k10 14 f10, zVl (a0 22) k11 28 f11, zVl (a0 23) k12 28 f12, zVl (a0 32) k13 14 f13, zVi (a0 14) k14 8 f14, zVl (a0 40) k15 14 f15, zVi (a0 15) k16 8 f16, zVi (a0 26) k17 28 f17, zVi (a0 24) k18 2 f18, zVi (a0 16) k19 8 f19, zVi (a0 46) k20 14 f20] → va_S A s.heap H locs → lv_has ls 5 [(4, .int s_3.1), (0, .ref h0), (1, .int p1), (2, .int p2), (3, .int p3)] → W p l e (headSpec wsX12_isBetter ({ frames := 5, cells := 0, slots := 0, locals := 134 })).room s m ([.ref h0, .int p1, .int p2, .int p3] : List Value).toArray below meth c H locs 0 0 Q (F0 m 37 ls []) := by
          intro n
          induction n with
          | zero => exact fun _ _ _ _ hfn => (zl_0 hfn).elim
          | succ n ih_3 =>
            intro s_3 H locs ls hfn hP hD hS hl
            have hfn := zl_s ebd_3 hfn
            refine lv_iload hx hb dX12_isBetter_37 (lv_at hl 0 rfl) ?_
            refine lv_iload_n hx hb dX12_isBetter_39 rfl (lv_at hl 2 rfl) ?_
            refine lv_iload_n hx hb dX12_isBetter_40 rfl (lv_at hl 3 rfl) ?_
            refine lv_iadd hx hb dX12_isBetter_41 ?_
            refine lv_icmp_ge (tgt := 68) hx hb dX12_isBetter_42 (of_decide_eq_true rfl) (fun c_4 => ?_) (fun c_4 => ?_)
            · have hfn := (if_pos c_4).symm.trans hfn
              refine lv_aload_n hx hb dX12_isBetter_68 rfl (lv_at hl 1 rfl) ?_
              refine lv_dup hx hb dX12_isBetter_69 rfl ?_
              refine va_get (D := (dC, dI)) (ci := 12) (v := .int (b0 45)) (C := RX12) (T := TX12) (N := 67) hx hb hts zn_X12_isBetter_X12 hown hK hP 0 rfl rfl 45 (of_decide_eq_true rfl) (hts (.fieldLink RX12 150 "ShortEnoughModel" "tries" "I") zw_X12_isBetter_1247) (fun _ h9 => h9) rfl dX12_isBetter_70 ?_
              refine lv_iconst (v := 1) hx hb dX12_isBetter_73 zci_1 ?_
              refine lv_iadd hx hb dX12_isBetter_74 ?_
              refine va_put (D := (dC, dI)) (ci := 12) (v := .int ((b0 45) + 1)) (ty := .int) (C := RX12) (T := TX12) (N := 67) hx hb hts zn_X12_isBetter_X12 tyX12 tyX12_ok nmX12 hown hK hP hD hS 0 rfl rfl 45 (of_decide_eq_true rfl) (hts (.fieldLink RX12 150 "ShortEnoughModel" "tries" "I") zw_X12_isBetter_1247) (fun _ h9 => h9) rfl (tyX12_ok 45 (of_decide_eq_true rfl)) rfl rfl (Nat.le_of_ble_eq_true rfl) dX12_isBetter_75 (fun H locs hP hD hS => ?_)
              have hP : va_P (dC, dI) vwCl [(h0, .inr (12, zO a0 (zI b0 45 ((b0 45) + 1)) c0)), zVi (a0 17) k1 2 f1, zVi (a0 43) k2 14 f2, zVi (a0 39) k3 14 s_3.2, zVi (a0 47) k4 14 f4, zVi (a0 29) k5 14 f5, zVi (a0 27) k6 28 f6, zVi (a0 19) k7 28 f7, zVi (a0 20) k8 28 f8, zVi (a0 21) k9 28 f9, zVl (a0 31) k10 14 f10, zVl (a0 22) k11 28 f11, zVl (a0 23) k12 28 f12, zVl (a0 32) k13 14 f13, zVi (a0 14) k14 8 f14, zVl (a0 40) k15 14 f15, zVi (a0 15) k16 8 f16, zVi (a0 26) k17 28 f17, zVi (a0 24) k18 2 f18, zVi (a0 16) k19 8 f19, zVi (a0 46) k20 14 f20] H := hP
              have hD := zDW hD hP rfl
              refine lv_aload_n hx hb dX12_isBetter_78 rfl (lv_at hl 1 rfl) ?_
              obtain ⟨o_5, hqo_5, hfn⟩ := zb_s hfn
              refine zcVb (ci := 12) (rest := []) (pc' := 82) (ws' := [(h0, .inr (12, zO a0 (zI (zI (zI b0 41 o_5.2.1) 42 o_5.2.2.1) 45 ((b0 45) + 1)) c0)), zVi (a0 17) k1 2 f1, zVi (a0 43) k2 14 f2, zVi (a0 39) k3 14 s_3.2, zVi (a0 47) k4 14 f4, zVi (a0 29) k5 14 f5, zVi (a0 27) k6 28 f6, zVi (a0 19) k7 28 f7, zVi (a0 20) k8 28 f8, zVi (a0 21) k9 28 f9, zVl (a0 31) k10 14 o_5.2.2.2.1, zVl (a0 22) k11 28 f11, zVl (a0 23) k12 28 f12, zVl (a0 32) k13 14 o_5.2.2.2.2.1, zVi (a0 14) k14 8 f14, zVl (a0 40) k15 14 o_5.2.2.2.2.2, zVi (a0 15) k16 8 f16, zVi (a0 26) k17 28 f17, zVi (a0 24) k18 2 f18, zVi (a0 16) k19 8 f19, zVi (a0 46) k20 14 f20]) hP hK hD hS hA ⟨hx, hb, hml, hown, hts⟩ (zf_X12_passes l dC dI h0 a0 (zI b0 45 ((b0 45) + 1)) c0 k1 f1 k7 f7 k8 f8 k9 f9 k10 f10 k11 f11 k12 f12 k13 f13 k3 s_3.2 k14 f14 k15 f15 k16 f16 k17 f17 o_5 hqo_5 H.size) (cwV 0 hts gX12_isBetter_X12_passes rfl rfl rfl zhd_X12_passes ⟨Nat.le_of_ble_eq_true rfl, Nat.le_of_ble_eq_true rfl⟩) [0, 1, 7, 8, 9, 10, 11, 12, 13, 3, 14, 15, 16, 17] rfl (of_decide_eq_true rfl) [0, 6, 7, 8, 9, 10, 11, 12, 2, 13, 14, 15, 16] rfl rfl rfl rfl hl.1 rfl (Nat.le_of_ble_eq_true rfl) dX12_isBetter_79 ⟨Nat.le_of_ble_eq_true rfl, Nat.le_of_ble_eq_true rfl⟩ [some 0, some 1, none, some 9, none, none, none, some 2, some 3, some 4, some 5, some 6, some 7, some 8, some 10, some 11, some 12, some 13] (of_decide_eq_true rfl) (of_decide_eq_true rfl) rfl rfl rfl (fun H locs hw_8n hP hD hS => ?_)
              refine lv_if_eq (tgt := 96) hx hb dX12_isBetter_82 (of_decide_eq_true rfl) (fun c_9 => ?_) (fun c_9 => ?_)
              · have hfn := (if_pos c_9).symm.trans hfn
                refine lv_iconst (v := 0) hx hb dX12_isBetter_96 zci_0 ?_
                have ho := Option.some.inj hfn
                subst ho
                exact zrz hx hb hr rfl hK hP hD hS hQ ⟨rfl, zB0⟩ hlocks dX12_isBetter_97
              have hfn := (if_neg c_9).symm.trans hfn
              refine lv_aload_n hx hb dX12_isBetter_85 rfl (lv_at hl 1 rfl) ?_
              obtain ⟨o_10, hqo_10, hfn⟩ := zb_s hfn
              refine zcVi (ci := 12) (rest := []) (pc' := 89) (ws' := [(h0, .inr (12, zO a0 (zI (zI (zI b0 41 o_5.2.1) 42 o_5.2.2.1) 45 ((b0 45) + 1)) c0)), zVi (a0 17) k1 2 f1, zVi (a0 43) k2 14 f2, zVi (a0 39) k3 14 s_3.2, zVi (a0 47) k4 14 f4, zVi (a0 29) k5 14 f5, zVi (a0 27) k6 28 f6, zVi (a0 19) k7 28 f7, zVi (a0 20) k8 28 f8, zVi (a0 21) k9 28 f9, zVl (a0 31) k10 14 o_5.2.2.2.1, zVl (a0 22) k11 28 f11, zVl (a0 23) k12 28 f12, zVl (a0 32) k13 14 o_5.2.2.2.2.1, zVi (a0 14) k14 8 f14, zVl (a0 40) k15 14 o_5.2.2.2.2.2, zVi (a0 15) k16 8 f16, zVi (a0 26) k17 28 f17, zVi (a0 24) k18 2 f18, zVi (a0 16) k19 8 f19, zVi (a0 46) k20 14 f20]) hP hK hD hS hA ⟨hx, hb, hml, hown, hts⟩ (zf_X12_costTried l dC dI h0 a0 (zI (zI (zI b0 41 o_5.2.1) 42 o_5.2.2.1) 45 ((b0 45) + 1)) c0 k18 f18 k1 f1 k8 f8 k3 s_3.2 k9 f9 k19 f19 o_10 hqo_10 H.size) (cwV 0 hts gX12_isBetter_X12_costTried rfl rfl rfl zhd_X12_costTried ⟨Nat.le_of_ble_eq_true rfl, Nat.le_of_ble_eq_true rfl⟩) [0, 18, 1, 8, 3, 9, 19] rfl (of_decide_eq_true rfl) [17, 0, 7, 2, 8, 18] rfl rfl rfl rfl hl.1 rfl (Nat.le_of_ble_eq_true rfl) dX12_isBetter_86 ⟨Nat.le_of_ble_eq_true rfl, Nat.le_of_ble_eq_true rfl⟩ [some 0, some 2, none, some 4, none, none, none, none, some 3, some 5, none, none, none, none, none, none, none, none, some 1, some 6] (of_decide_eq_true rfl) (of_decide_eq_true rfl) rfl rfl rfl (fun H locs hP hD hS => ?_)
              refine lv_aload_n hx hb dX12_isBetter_89 rfl (lv_at hl 1 rfl) ?_
              refine va_get (D := (dC, dI)) (ci := 12) (v := .int (b0 44)) (C := RX12) (T := TX12) (N := 67) hx hb hts zn_X12_isBetter_X12 hown hK hP 0 rfl rfl 44 (of_decide_eq_true rfl) (hts (.fieldLink RX12 147 "ShortEnoughModel" "soFarCost" "I") zw_X12_isBetter_1248) (fun _ h9 => h9) rfl dX12_isBetter_90 ?_
              refine lv_icmp_lt (tgt := 98) hx hb dX12_isBetter_93 (of_decide_eq_true rfl) (fun c_14 => ?_) (fun c_14 => ?_)
              · have hfn := (if_pos c_14).symm.trans hfn
                refine lv_aload_n hx hb dX12_isBetter_98 rfl (lv_at hl 1 rfl) ?_
                obtain ⟨o_15, hqo_15, hfn⟩ := zb_s hfn
                refine zcVv (ci := 12) (rest := []) (pc' := 102) (ws' := [(h0, .inr (12, zO a0 (zI (zI (zI (zI b0 41 o_5.2.1) 42 o_5.2.2.1) 44 o_15.1) 45 ((b0 45) + 1)) c0)), zVi (a0 17) k1 2 f1, zVi (a0 43) k2 14 o_15.2, zVi (a0 39) k3 14 s_3.2, zVi (a0 47) k4 14 f4, zVi (a0 29) k5 14 f5, zVi (a0 27) k6 28 f6, zVi (a0 19) k7 28 f7, zVi (a0 20) k8 28 f8, zVi (a0 21) k9 28 f9, zVl (a0 31) k10 14 o_5.2.2.2.1, zVl (a0 22) k11 28 f11, zVl (a0 23) k12 28 f12, zVl (a0 32) k13 14 o_5.2.2.2.2.1, zVi (a0 14) k14 8 f14, zVl (a0 40) k15 14 o_5.2.2.2.2.2, zVi (a0 15) k16 8 f16, zVi (a0 26) k17 28 f17, zVi (a0 24) k18 2 f18, zVi (a0 16) k19 8 f19, zVi (a0 46) k20 14 f20]) hP hK hD hS hA ⟨hx, hb, hml, hown, hts⟩ (zf_X12_keepsTried l dC dI h0 a0 (zI (zI (zI b0 41 o_5.2.1) 42 o_5.2.2.1) 45 ((b0 45) + 1)) c0 k1 f1 k3 s_3.2 k2 f2 k18 f18 k8 f8 k9 f9 k19 f19 o_15 hqo_15 H.size) (cwV 0 hts gX12_isBetter_X12_keepsTried rfl rfl rfl zhd_X12_keepsTried ⟨Nat.le_of_ble_eq_true rfl, Nat.le_of_ble_eq_true rfl⟩) [0, 1, 3, 2, 18, 8, 9, 19] rfl (of_decide_eq_true rfl) [0, 2, 1, 17, 7, 8, 18] rfl rfl rfl rfl hl.1 rfl (Nat.le_of_ble_eq_true rfl) dX12_isBetter_99 ⟨Nat.le_of_ble_eq_true rfl, Nat.le_of_ble_eq_true rfl⟩ [some 0, some 1, some 3, some 2, none, none, none, none, some 5, some 6, none, none, none, none, none, none, none, none, some 4, some 7] (of_decide_eq_true rfl) (of_decide_eq_true rfl) rfl rfl rfl (fun H locs hP hD hS => ?_)
                refine lv_iload_n hx hb dX12_isBetter_102 rfl (lv_at hl 2 rfl) ?_
                refine lv_istore (lv' := [(4, .int p1), (0, .ref h0), (1, .int p1), (2, .int p2), (3, .int p3)]) hx hb dX12_isBetter_103 hl (of_decide_eq_true rfl) rfl (fun ls hl => ?_)
                obtain ⟨bd_19, ebd_19, hfn⟩ := zl_g hfn
                have lp_19 : ∀ (n : Nat) (s_19 : Int32 × (Nat → Int32)) (H : Heap) (locs : List Loc) (ls : Array Slot), zl bd_19 n s_19 = some o → va_P (dC, dI) vwCl [(h0, .inr (12, zO a0 (zI (zI (zI (zI b0 41 o_5.2.1) 42 o_5.2.2.1) 44 o_15.1) 45 ((b0 45) + 1)) c0)), zVi (a0 17) k1 2 f1, zVi (a0 43) k2 14 o_15.2, zVi (a0 39) k3 14 s_3.2, zVi (a0 47) k4 14 f4, zVi (a0 29) k5 14 f5, zVi (a0 27) k6 28 f6, zVi (a0 19) k7 28 f7, zVi (a0 20) k8 28 f8, zVi (a0 21) k9 28 f9, zVl (a0 31) k10 14 o_5.2.2.2.1, zVl (a0 22) k11 28 f11, zVl (a0 23) k12 28 f12, zVl (a0 32) k13 14 o_5.2.2.2.2.1, zVi (a0 14) k14 8 f14, zVl (a0 40) k15 14 o_5.2.2.2.2.2, zVi (a0 15) k16 8 f16, zVi (a0 26) k17 28 f17, zVi (a0 24) k18 2 f18, zVi (a0 16) k19 8 f19, zVi (a0 46) k20 14 s_19.2] H → va_D A [(h0, .inr (12, zO a0 (zI (zI (zI (zI b0 41 o_5.2.1) 42 o_5.2.2.1) 44 o_15.1) 45 ((b0 45) + 1)) c0)), zVi (a0 17) k1 2 f1, zVi (a0 43) k2 14 o_15.2, zVi (a0 39) k3 14 s_3.2, zVi (a0 47) k4 14 f4, zVi (a0 29) k5 14 f5, zVi (a0 27) k6 28 f6, zVi (a0 19) k7 28 f7, zVi (a0 20) k8 28 f8, zVi (a0 21) k9 28 f9, zVl (a0 31) k10 14 o_5.2.2.2.1, zVl (a0 22) k11 28 f11, zVl (a0 23) k12 28 f12, zVl (a0 32) k13 14 o_5.2.2.2.2.1, zVi (a0 14) k14 8 f14, zVl (a0 40) k15 14 o_5.2.2.2.2.2, zVi (a0 15) k16 8 f16, zVi (a0 26) k17 28 f17, zVi (a0 24) k18 2 f18, zVi (a0 16) k19 8 f19, zVi (a0 46) k20 14 s_19.2] → va_S A s.heap H locs → lv_has ls 5 [(4, .int s_19.1), (0, .ref h0), (1, .int p1), (2, .int p2)] → W p l e (headSpec wsX12_isBetter ({ frames := 5, cells := 0, slots := 0, locals := 134 })).room s m ([.ref h0, .int p1, .int p2, .int p3] : List Value).toArray below meth c H locs 0 0 Q (F0 m 105 ls []) := by
                  intro n
                  induction n with
                  | zero => exact fun _ _ _ _ hfn => (zl_0 hfn).elim
                  | succ n ih_19 =>
                    intro s_19 H locs ls hfn hP hD hS hl
                    have hfn := zl_s ebd_19 hfn
                    refine lv_iload hx hb dX12_isBetter_105 (lv_at hl 0 rfl) ?_
                    refine lv_iload_n hx hb dX12_isBetter_107 rfl (lv_at hl 2 rfl) ?_
                    refine lv_iload_n hx hb dX12_isBetter_108 rfl (lv_at hl 3 rfl) ?_
                    refine lv_iadd hx hb dX12_isBetter_109 ?_
                    refine lv_icmp_ge (tgt := 132) hx hb dX12_isBetter_110 (of_decide_eq_true rfl) (fun c_20 => ?_) (fun c_20 => ?_)
                    · have hfn := (if_pos c_20).symm.trans hfn
                      refine lv_iconst (v := 1) hx hb dX12_isBetter_132 zci_1 ?_
                      have ho := Option.some.inj hfn
                      subst ho
                      exact zrz hx hb hr rfl hK hP hD hS hQ ⟨rfl, zB1⟩ hlocks dX12_isBetter_133
                    have hfn := (if_neg c_20).symm.trans hfn
                    refine lv_aload_n hx hb dX12_isBetter_113 rfl (lv_at hl 1 rfl) ?_
                    refine va_get (D := (dC, dI)) (ci := 12) (v := .ref (a0 46)) (C := RX12) (T := TX12) (N := 67) hx hb hts zn_X12_isBetter_X12 hown hK hP 0 rfl rfl 46 (of_decide_eq_true rfl) (hts (.fieldLink RX12 153 "ShortEnoughModel" "hasChanged" "[Z") zw_X12_isBetter_1249) (fun _ h9 => h9) rfl dX12_isBetter_114 ?_
                    refine lv_aload_n hx hb dX12_isBetter_117 rfl (lv_at hl 1 rfl) ?_
                    refine va_get (D := (dC, dI)) (ci := 12) (v := .ref (a0 47)) (C := RX12) (T := TX12) (N := 67) hx hb hts zn_X12_isBetter_X12 hown hK hP 0 rfl rfl 47 (of_decide_eq_true rfl) (hts (.fieldLink RX12 156 "ShortEnoughModel" "row" "[I") zw_X12_isBetter_1246) (fun _ h9 => h9) rfl dX12_isBetter_118 ?_
                    refine lv_iload hx hb dX12_isBetter_121 (lv_at hl 0 rfl) ?_
                    obtain ⟨h_21, hfn⟩ := zg_s hfn
                    refine va_iald hx hb hK hP 4 3 rfl rfl h_21 dX12_isBetter_123 ?_
                    refine lv_iconst (v := 1) hx hb dX12_isBetter_124 zci_1 ?_
                    obtain ⟨h_22, hfn⟩ := zg_s hfn
                    refine va_zast hx hb hK hP hD hS 20 19 rfl rfl h_22 dX12_isBetter_125 (fun H locs hP hD hS => ?_)
                    obtain ⟨g_23, eg_23⟩ : ∃ g : Nat → Int32, g = (upd s_19.2 (f4 s_19.1.toNatClampNeg).toNatClampNeg (vp_nar .boolean 1)) := ⟨_, rfl⟩
                    have hfn := zn_s hfn eg_23
                    have hP : va_P (dC, dI) vwCl [(h0, .inr (12, zO a0 (zI (zI (zI (zI b0 41 o_5.2.1) 42 o_5.2.2.1) 44 o_15.1) 45 ((b0 45) + 1)) c0)), zVi (a0 17) k1 2 f1, zVi (a0 43) k2 14 o_15.2, zVi (a0 39) k3 14 s_3.2, zVi (a0 47) k4 14 f4, zVi (a0 29) k5 14 f5, zVi (a0 27) k6 28 f6, zVi (a0 19) k7 28 f7, zVi (a0 20) k8 28 f8, zVi (a0 21) k9 28 f9, zVl (a0 31) k10 14 o_5.2.2.2.1, zVl (a0 22) k11 28 f11, zVl (a0 23) k12 28 f12, zVl (a0 32) k13 14 o_5.2.2.2.2.1, zVi (a0 14) k14 8 f14, zVl (a0 40) k15 14 o_5.2.2.2.2.2, zVi (a0 15) k16 8 f16, zVi (a0 26) k17 28 f17, zVi (a0 24) k18 2 f18, zVi (a0 16) k19 8 f19, zVi (a0 46) k20 14 g_23] H := by rw [eg_23]; exact hP
                    have hD : va_D A [(h0, .inr (12, zO a0 (zI (zI (zI (zI b0 41 o_5.2.1) 42 o_5.2.2.1) 44 o_15.1) 45 ((b0 45) + 1)) c0)), zVi (a0 17) k1 2 f1, zVi (a0 43) k2 14 o_15.2, zVi (a0 39) k3 14 s_3.2, zVi (a0 47) k4 14 f4, zVi (a0 29) k5 14 f5, zVi (a0 27) k6 28 f6, zVi (a0 19) k7 28 f7, zVi (a0 20) k8 28 f8, zVi (a0 21) k9 28 f9, zVl (a0 31) k10 14 o_5.2.2.2.1, zVl (a0 22) k11 28 f11, zVl (a0 23) k12 28 f12, zVl (a0 32) k13 14 o_5.2.2.2.2.1, zVi (a0 14) k14 8 f14, zVl (a0 40) k15 14 o_5.2.2.2.2.2, zVi (a0 15) k16 8 f16, zVi (a0 26) k17 28 f17, zVi (a0 24) k18 2 f18, zVi (a0 16) k19 8 f19, zVi (a0 46) k20 14 g_23] := by rw [eg_23]; exact hD
                    refine lv_iinc (v := (s_19.1 + 1)) (lv' := [(4, .int (s_19.1 + 1)), (0, .ref h0), (1, .int p1), (2, .int p2)]) hx hb dX12_isBetter_126 hl (k := 0) rfl rfl (of_decide_eq_true rfl) rfl (fun ls hl => ?_)
                    refine lv_goto (tgt := 105) hx hb dX12_isBetter_129 (of_decide_eq_true rfl) ?_
                    exact ih_19 ((s_19.1 + 1), g_23) H locs ls hfn hP hD hS (lv_sub hl [0, 1, 2, 3] rfl)
                exact lp_19 _ (p1, f20) H locs ls hfn hP hD hS (lv_sub hl [0, 1, 2, 3] rfl)
              have hfn := (if_neg c_14).symm.trans hfn
              refine lv_iconst (v := 0) hx hb dX12_isBetter_96 zci_0 ?_
              have ho := Option.some.inj hfn
              subst ho
              exact zrz hx hb hr rfl hK hP hD hS hQ ⟨rfl, zB0⟩ hlocks dX12_isBetter_97
            have hfn := (if_neg c_4).symm.trans hfn
            refine lv_aload_n hx hb dX12_isBetter_45 rfl (lv_at hl 1 rfl) ?_
            refine lv_aload_n hx hb dX12_isBetter_46 rfl (lv_at hl 1 rfl) ?_
            refine va_get (D := (dC, dI)) (ci := 12) (v := .ref (a0 29)) (C := RX12) (T := TX12) (N := 67) hx hb hts zn_X12_isBetter_X12 hown hK hP 0 rfl rfl 29 (of_decide_eq_true rfl) (hts (.fieldLink RX12 100 "ShortEnoughModel" "free" "[I") zw_X12_isBetter_1245) (fun _ h9 => h9) rfl dX12_isBetter_47 ?_
            refine lv_aload_n hx hb dX12_isBetter_50 rfl (lv_at hl 1 rfl) ?_
            refine va_get (D := (dC, dI)) (ci := 12) (v := .ref (a0 47)) (C := RX12) (T := TX12) (N := 67) hx hb hts zn_X12_isBetter_X12 hown hK hP 0 rfl rfl 47 (of_decide_eq_true rfl) (hts (.fieldLink RX12 156 "ShortEnoughModel" "row" "[I") zw_X12_isBetter_1246) (fun _ h9 => h9) rfl dX12_isBetter_51 ?_
            refine lv_iload hx hb dX12_isBetter_54 (lv_at hl 0 rfl) ?_
            obtain ⟨h_24, hfn⟩ := zg_s hfn
            refine va_iald hx hb hK hP 4 3 rfl rfl h_24 dX12_isBetter_56 ?_
            obtain ⟨h_25, hfn⟩ := zg_s hfn
            refine va_iald hx hb hK hP 5 4 rfl rfl h_25 dX12_isBetter_57 ?_
            refine lv_iload_n hx hb dX12_isBetter_58 rfl (lv_at hl 4 rfl) ?_
            obtain ⟨o_26, hqo_26, hfn⟩ := zb_s hfn
            refine zcVv (ci := 12) (rest := []) (pc' := 62) (ws' := [(h0, .inr (12, zO a0 b0 c0)), zVi (a0 17) k1 2 f1, zVi (a0 43) k2 14 f2, zVi (a0 39) k3 14 o_26, zVi (a0 47) k4 14 f4, zVi (a0 29) k5 14 f5, zVi (a0 27) k6 28 f6, zVi (a0 19) k7 28 f7, zVi (a0 20) k8 28 f8, zVi (a0 21) k9 28 f9, zVl (a0 31) k10 14 f10, zVl (a0 22) k11 28 f11, zVl (a0 23) k12 28 f12, zVl (a0 32) k13 14 f13, zVi (a0 14) k14 8 f14, zVl (a0 40) k15 14 f15, zVi (a0 15) k16 8 f16, zVi (a0 26) k17 28 f17, zVi (a0 24) k18 2 f18, zVi (a0 16) k19 8 f19, zVi (a0 46) k20 14 f20]) hP hK hD hS hA ⟨hx, hb, hml, hown, hts⟩ (zf_X12_triesGroup l dC dI h0 (f5 (f4 s_3.1.toNatClampNeg).toNatClampNeg) p3 a0 b0 c0 k1 f1 k6 f6 k3 s_3.2 o_26 hqo_26 H.size) (cwV 2 hts gX12_isBetter_X12_triesGroup rfl rfl rfl zhd_X12_triesGroup ⟨Nat.le_of_ble_eq_true rfl, Nat.le_of_ble_eq_true rfl⟩) [0, 1, 6, 3] rfl (of_decide_eq_true rfl) [0, 5, 2] rfl rfl rfl rfl hl.1 rfl (Nat.le_of_ble_eq_true rfl) dX12_isBetter_59 ⟨Nat.le_of_ble_eq_true rfl, Nat.le_of_ble_eq_true rfl⟩ [some 0, some 1, none, some 3, none, none, some 2] (of_decide_eq_true rfl) (of_decide_eq_true rfl) rfl rfl rfl (fun H locs hP hD hS => ?_)
            refine lv_iinc (v := (s_3.1 + 1)) (lv' := [(4, .int (s_3.1 + 1)), (0, .ref h0), (1, .int p1), (2, .int p2), (3, .int p3)]) hx hb dX12_isBetter_62 hl (k := 0) rfl rfl (of_decide_eq_true rfl) rfl (fun ls hl => ?_)
            refine lv_goto (tgt := 37) hx hb dX12_isBetter_65 (of_decide_eq_true rfl) ?_
            exact ih_3 ((s_3.1 + 1), o_26) H locs ls hfn hP hD hS (lv_sub hl [0, 1, 2, 3, 4] rfl)
        exact lp_3 _ (p1, s_1.2) H locs ls hfn hP hD hS (lv_sub hl [0, 1, 2, 3, 4] rfl)
      have hfn := (if_neg c_2).symm.trans hfn
      refine lv_aload_n hx hb dX12_isBetter_14 rfl (lv_at hl 1 rfl) ?_
      refine va_get (D := (dC, dI)) (ci := 12) (v := .ref (a0 39)) (C := RX12) (T := TX12) (N := 67) hx hb hts zn_X12_isBetter_X12 hown hK hP 0 rfl rfl 39 (of_decide_eq_true rfl) (hts (.fieldLink RX12 132 "ShortEnoughModel" "tried" "[I") zw_X12_isBetter_1243) (fun _ h9 => h9) rfl dX12_isBetter_15 ?_
      refine lv_iload hx hb dX12_isBetter_18 (lv_at hl 0 rfl) ?_
      refine lv_aload_n hx hb dX12_isBetter_20 rfl (lv_at hl 1 rfl) ?_
      refine va_get (D := (dC, dI)) (ci := 12) (v := .ref (a0 43)) (C := RX12) (T := TX12) (N := 67) hx hb hts zn_X12_isBetter_X12 hown hK hP 0 rfl rfl 43 (of_decide_eq_true rfl) (hts (.fieldLink RX12 144 "ShortEnoughModel" "soFar" "[I") zw_X12_isBetter_1244) (fun _ h9 => h9) rfl dX12_isBetter_21 ?_
      refine lv_iload hx hb dX12_isBetter_24 (lv_at hl 0 rfl) ?_
      obtain ⟨h_30, hfn⟩ := zg_s hfn
      refine va_iald hx hb hK hP 2 1 rfl rfl h_30 dX12_isBetter_26 ?_
      refine va_iast hx hb hK hP hD hS 3 2 rfl rfl h_30 dX12_isBetter_27 (fun H locs hP hD hS => ?_)
      have hP : va_P (dC, dI) vwCl [(h0, .inr (12, zO a0 b0 c0)), zVi (a0 17) k1 2 f1, zVi (a0 43) k2 14 f2, zVi (a0 39) k3 14 (upd s_1.2 s_1.1.toNatClampNeg (f2 s_1.1.toNatClampNeg)), zVi (a0 47) k4 14 f4, zVi (a0 29) k5 14 f5, zVi (a0 27) k6 28 f6, zVi (a0 19) k7 28 f7, zVi (a0 20) k8 28 f8, zVi (a0 21) k9 28 f9, zVl (a0 31) k10 14 f10, zVl (a0 22) k11 28 f11, zVl (a0 23) k12 28 f12, zVl (a0 32) k13 14 f13, zVi (a0 14) k14 8 f14, zVl (a0 40) k15 14 f15, zVi (a0 15) k16 8 f16, zVi (a0 26) k17 28 f17, zVi (a0 24) k18 2 f18, zVi (a0 16) k19 8 f19, zVi (a0 46) k20 14 f20] H := hP
      have hD := zDW hD hP rfl
      refine lv_iinc (v := (s_1.1 + 1)) (lv' := [(4, .int (s_1.1 + 1)), (0, .ref h0), (1, .int p1), (2, .int p2), (3, .int p3)]) hx hb dX12_isBetter_28 hl (k := 0) rfl rfl (of_decide_eq_true rfl) rfl (fun ls hl => ?_)
      refine lv_goto (tgt := 3) hx hb dX12_isBetter_31 (of_decide_eq_true rfl) ?_
      exact ih_1 ((s_1.1 + 1), (upd s_1.2 s_1.1.toNatClampNeg (f2 s_1.1.toNatClampNeg))) H locs ls hfn hP hD hS (lv_sub hl [0, 1, 2, 3, 4] rfl)
  exact lp_1 _ (0, f3) s.heap [] ls hfn hP hD hS (lv_sub hl [0, 1, 2, 3, 4] rfl)
theorem zn_X12_halvesBy_X12 : ∀ w ∈ wsX120, w ∈ wsX12_halvesBy := fun _ h => List.mem_cons_of_mem _ (List.mem_append_right _ h)
theorem zw_X12_halvesBy_1251 : Cond.fieldLink RX12 103 "ShortEnoughModel" "freeMany" "I" ∈ wsX12_halvesBy := List.mem_of_getElem? (i := 1) (by decide +kernel)
theorem zw_X12_halvesBy_1252 : Cond.fieldLink RX12 153 "ShortEnoughModel" "hasChanged" "[Z" ∈ wsX12_halvesBy := List.mem_of_getElem? (i := 2) (by decide +kernel)
theorem zw_X12_halvesBy_1253 : Cond.fieldLink RX12 156 "ShortEnoughModel" "row" "[I" ∈ wsX12_halvesBy := List.mem_of_getElem? (i := 3) (by decide +kernel)
theorem zw_X12_halvesBy_1254 : Cond.fieldLink RX12 159 "ShortEnoughModel" "partFrom" "[I" ∈ wsX12_halvesBy := List.mem_of_getElem? (i := 4) (by decide +kernel)
theorem zw_X12_halvesBy_1255 : Cond.fieldLink RX12 162 "ShortEnoughModel" "partMany" "[I" ∈ wsX12_halvesBy := List.mem_of_getElem? (i := 5) (by decide +kernel)
set_option maxHeartbeats 4000000 in
set_option maxRecDepth 100000 in
theorem zf_X12_halvesBy (l : Launch) (dC : Nat → ClassId) (dI : Nat → Nat → Nat) (h0 : Nat) (p1 : Int32) (a0 : Nat → Nat) (b0 : Nat → Int32) (c0 : Nat → Int64) (k1 : Nat) (f1 : Nat → Int32) (k2 : Nat) (f2 : Nat → Int32) (k3 : Nat) (f3 : Nat → Int32) (k4 : Nat) (f4 : Nat → Int32) (k5 : Nat) (f5 : Nat → Int32) (k6 : Nat) (f6 : Nat → Int32) (k7 : Nat) (f7 : Nat → Int32) (k8 : Nat) (f8 : Nat → Int32) (k9 : Nat) (f9 : Nat → Int32) (k10 : Nat) (f10 : Nat → Int32) (k11 : Nat) (f11 : Nat → Int32) (k12 : Nat) (f12 : Nat → Int32) (k13 : Nat) (f13 : Nat → Int64) (k14 : Nat) (f14 : Nat → Int64) (k15 : Nat) (f15 : Nat → Int64) (k16 : Nat) (f16 : Nat → Int64) (k17 : Nat) (f17 : Nat → Int32) (k18 : Nat) (f18 : Nat → Int64) (k19 : Nat) (f19 : Nat → Int32) (k20 : Nat) (f20 : Nat → Int32) (k21 : Nat) (f21 : Nat → Int32) (k22 : Nat) (f22 : Nat → Int32) (o : Int32 × Int32 × Int32 × Int32 × (Nat → Int32) × (Nat → Int32) × (Nat → Int32) × (Nat → Int32) × (Nat → Int32) × (Nat → Int32) × (Nat → Int64) × (Nat → Int64) × (Nat → Int64)) (hfn : fn_X12_halvesBy p1 (b0 30) (b0 33) (c0 34) (b0 41) (b0 42) (b0 44) (b0 45) f1 f2 f3 f4 f5 f6 f7 f8 f9 f10 f11 f12 f13 f14 f15 f16 f17 f18 f19 f20 f21 f22 = some o) (sz : Nat) : zMv l yX12_halvesBy wsX12_halvesBy ({ frames := 6, cells := 0, slots := 0, locals := 158 }) (dC, dI) vwCl [.ref h0, .int p1] [(h0, .inr (12, zO a0 b0 c0)), zVi (a0 46) k1 14 f1, zVi (a0 47) k2 14 f2, zVi (a0 48) k3 64 f3, zVi (a0 49) k4 64 f4, zVi (a0 17) k5 2 f5, zVi (a0 43) k6 14 f6, zVi (a0 39) k7 14 f7, zVi (a0 29) k8 14 f8, zVi (a0 27) k9 28 f9, zVi (a0 19) k10 28 f10, zVi (a0 20) k11 28 f11, zVi (a0 21) k12 28 f12, zVl (a0 31) k13 14 f13, zVl (a0 22) k14 28 f14, zVl (a0 23) k15 28 f15, zVl (a0 32) k16 14 f16, zVi (a0 14) k17 8 f17, zVl (a0 40) k18 14 f18, zVi (a0 15) k19 8 f19, zVi (a0 26) k20 28 f20, zVi (a0 24) k21 2 f21, zVi (a0 16) k22 8 f22] [(k1, .boolean), (k2, .int), (k3, .int), (k4, .int), (k5, .int), (k6, .int), (k7, .int), (k8, .int), (k9, .int), (k10, .int), (k11, .int), (k12, .int), (k13, .long), (k14, .long), (k15, .long), (k16, .long), (k17, .int), (k18, .long), (k19, .int), (k20, .int), (k21, .int), (k22, .int)] (fun _ => True) [(h0, .inr (12, zO a0 (zI (zI (zI (zI b0 41 o.1) 42 o.2.1) 44 o.2.2.1) 45 o.2.2.2.1) c0)), zVi (a0 46) k1 14 o.2.2.2.2.1, zVi (a0 47) k2 14 o.2.2.2.2.2.1, zVi (a0 48) k3 64 o.2.2.2.2.2.2.1, zVi (a0 49) k4 64 o.2.2.2.2.2.2.2.1, zVi (a0 17) k5 2 f5, zVi (a0 43) k6 14 o.2.2.2.2.2.2.2.2.1, zVi (a0 39) k7 14 o.2.2.2.2.2.2.2.2.2.1, zVi (a0 29) k8 14 f8, zVi (a0 27) k9 28 f9, zVi (a0 19) k10 28 f10, zVi (a0 20) k11 28 f11, zVi (a0 21) k12 28 f12, zVl (a0 31) k13 14 o.2.2.2.2.2.2.2.2.2.2.1, zVl (a0 22) k14 28 f14, zVl (a0 23) k15 28 f15, zVl (a0 32) k16 14 o.2.2.2.2.2.2.2.2.2.2.2.1, zVi (a0 14) k17 8 f17, zVl (a0 40) k18 14 o.2.2.2.2.2.2.2.2.2.2.2.2, zVi (a0 15) k19 8 f19, zVi (a0 26) k20 28 f20, zVi (a0 24) k21 2 f21, zVi (a0 16) k22 8 f22] [(k1, .boolean), (k2, .int), (k3, .int), (k4, .int), (k5, .int), (k6, .int), (k7, .int), (k8, .int), (k9, .int), (k10, .int), (k11, .int), (k12, .int), (k13, .long), (k14, .long), (k15, .long), (k16, .long), (k17, .int), (k18, .long), (k19, .int), (k20, .int), (k21, .int), (k22, .int)] sz := by
  refine zgov (cc := cX12_halvesBy) (maxL := 7) (ret := none) (C0 := RX12) (lv0 := [(0, .ref h0), (1, .int p1)]) zpl_X12 rfl rfl rfl (Nat.le_of_ble_eq_true rfl) ?_
  intro p e s m below meth c A ls Q hx hb hr hts hown hlocks hml hP hK hD hA hS hl hQ
  unfold fn_X12_halvesBy at hfn
  refine lv_iconst (v := 0) hx hb dX12_halvesBy_0 zci_0 ?_
  refine lv_istore_n (lv' := [(2, .int 0), (0, .ref h0), (1, .int p1)]) hx hb dX12_halvesBy_1 rfl hl (of_decide_eq_true rfl) rfl (fun ls hl => ?_)
  refine lv_iconst (v := 0) hx hb dX12_halvesBy_2 zci_0 ?_
  refine lv_istore_n (lv' := [(3, .int 0), (2, .int 0), (0, .ref h0), (1, .int p1)]) hx hb dX12_halvesBy_3 rfl hl (of_decide_eq_true rfl) rfl (fun ls hl => ?_)
  obtain ⟨bd_1, ebd_1, hfn⟩ := zl_g hfn
  have lp_1 : ∀ (n : Nat) (s_1 : Int32 × Int32 × (Nat → Int32)) (H : Heap) (locs : List Loc) (ls : Array Slot), zl bd_1 n s_1 = some o → va_P (dC, dI) vwCl [(h0, .inr (12, zO a0 b0 c0)), zVi (a0 46) k1 14 f1, zVi (a0 47) k2 14 s_1.2.2, zVi (a0 48) k3 64 f3, zVi (a0 49) k4 64 f4, zVi (a0 17) k5 2 f5, zVi (a0 43) k6 14 f6, zVi (a0 39) k7 14 f7, zVi (a0 29) k8 14 f8, zVi (a0 27) k9 28 f9, zVi (a0 19) k10 28 f10, zVi (a0 20) k11 28 f11, zVi (a0 21) k12 28 f12, zVl (a0 31) k13 14 f13, zVl (a0 22) k14 28 f14, zVl (a0 23) k15 28 f15, zVl (a0 32) k16 14 f16, zVi (a0 14) k17 8 f17, zVl (a0 40) k18 14 f18, zVi (a0 15) k19 8 f19, zVi (a0 26) k20 28 f20, zVi (a0 24) k21 2 f21, zVi (a0 16) k22 8 f22] H → va_D A [(h0, .inr (12, zO a0 b0 c0)), zVi (a0 46) k1 14 f1, zVi (a0 47) k2 14 s_1.2.2, zVi (a0 48) k3 64 f3, zVi (a0 49) k4 64 f4, zVi (a0 17) k5 2 f5, zVi (a0 43) k6 14 f6, zVi (a0 39) k7 14 f7, zVi (a0 29) k8 14 f8, zVi (a0 27) k9 28 f9, zVi (a0 19) k10 28 f10, zVi (a0 20) k11 28 f11, zVi (a0 21) k12 28 f12, zVl (a0 31) k13 14 f13, zVl (a0 22) k14 28 f14, zVl (a0 23) k15 28 f15, zVl (a0 32) k16 14 f16, zVi (a0 14) k17 8 f17, zVl (a0 40) k18 14 f18, zVi (a0 15) k19 8 f19, zVi (a0 26) k20 28 f20, zVi (a0 24) k21 2 f21, zVi (a0 16) k22 8 f22] → va_S A s.heap H locs → lv_has ls 7 [(3, .int s_1.2.1), (2, .int s_1.1), (0, .ref h0), (1, .int p1)] → W p l e (headSpec wsX12_halvesBy ({ frames := 6, cells := 0, slots := 0, locals := 158 })).room s m ([.ref h0, .int p1] : List Value).toArray below meth c H locs 0 0 Q (F0 m 4 ls []) := by
    intro n
    induction n with
    | zero => exact fun _ _ _ _ hfn => (zl_0 hfn).elim
    | succ n ih_1 =>
      intro s_1 H locs ls hfn hP hD hS hl
      have hfn := zl_s ebd_1 hfn
      refine lv_iload_n hx hb dX12_halvesBy_4 rfl (lv_at hl 0 rfl) ?_
      refine lv_aload_n hx hb dX12_halvesBy_5 rfl (lv_at hl 2 rfl) ?_
      refine va_get (D := (dC, dI)) (ci := 12) (v := .int (b0 30)) (C := RX12) (T := TX12) (N := 67) hx hb hts zn_X12_halvesBy_X12 hown hK hP 0 rfl rfl 30 (of_decide_eq_true rfl) (hts (.fieldLink RX12 103 "ShortEnoughModel" "freeMany" "I") zw_X12_halvesBy_1251) (fun _ h9 => h9) rfl dX12_halvesBy_6 ?_
      refine lv_icmp_ge (tgt := 40) hx hb dX12_halvesBy_9 (of_decide_eq_true rfl) (fun c_2 => ?_) (fun c_2 => ?_)
      · have hfn := (if_pos c_2).symm.trans hfn
        refine lv_iconst (v := 0) hx hb dX12_halvesBy_40 zci_0 ?_
        refine lv_istore_n (lv' := [(3, .int 0), (2, .int s_1.1), (0, .ref h0), (1, .int p1)]) hx hb dX12_halvesBy_41 rfl hl (of_decide_eq_true rfl) rfl (fun ls hl => ?_)
        refine lv_iconst (v := 0) hx hb dX12_halvesBy_42 zci_0 ?_
        refine lv_istore (lv' := [(4, .int 0), (3, .int 0), (2, .int s_1.1), (0, .ref h0), (1, .int p1)]) hx hb dX12_halvesBy_43 hl (of_decide_eq_true rfl) rfl (fun ls hl => ?_)
        refine lv_iload_n hx hb dX12_halvesBy_45 rfl (lv_at hl 2 rfl) ?_
        obtain ⟨j_3, ej_3, hfn⟩ := zj_g hfn
        have jp_3 : ∀ (s_3 : Int32 × (Nat → Int32) × (Nat → Int32)) (H : Heap) (locs : List Loc) (ls : Array Slot), j_3 s_3 = some o → va_P (dC, dI) vwCl [(h0, .inr (12, zO a0 b0 c0)), zVi (a0 46) k1 14 f1, zVi (a0 47) k2 14 s_1.2.2, zVi (a0 48) k3 64 s_3.2.1, zVi (a0 49) k4 64 s_3.2.2, zVi (a0 17) k5 2 f5, zVi (a0 43) k6 14 f6, zVi (a0 39) k7 14 f7, zVi (a0 29) k8 14 f8, zVi (a0 27) k9 28 f9, zVi (a0 19) k10 28 f10, zVi (a0 20) k11 28 f11, zVi (a0 21) k12 28 f12, zVl (a0 31) k13 14 f13, zVl (a0 22) k14 28 f14, zVl (a0 23) k15 28 f15, zVl (a0 32) k16 14 f16, zVi (a0 14) k17 8 f17, zVl (a0 40) k18 14 f18, zVi (a0 15) k19 8 f19, zVi (a0 26) k20 28 f20, zVi (a0 24) k21 2 f21, zVi (a0 16) k22 8 f22] H → va_D A [(h0, .inr (12, zO a0 b0 c0)), zVi (a0 46) k1 14 f1, zVi (a0 47) k2 14 s_1.2.2, zVi (a0 48) k3 64 s_3.2.1, zVi (a0 49) k4 64 s_3.2.2, zVi (a0 17) k5 2 f5, zVi (a0 43) k6 14 f6, zVi (a0 39) k7 14 f7, zVi (a0 29) k8 14 f8, zVi (a0 27) k9 28 f9, zVi (a0 19) k10 28 f10, zVi (a0 20) k11 28 f11, zVi (a0 21) k12 28 f12, zVl (a0 31) k13 14 f13, zVl (a0 22) k14 28 f14, zVl (a0 23) k15 28 f15, zVl (a0 32) k16 14 f16, zVi (a0 14) k17 8 f17, zVl (a0 40) k18 14 f18, zVi (a0 15) k19 8 f19, zVi (a0 26) k20 28 f20, zVi (a0 24) k21 2 f21, zVi (a0 16) k22 8 f22] → va_S A s.heap H locs → lv_has ls 7 [(4, .int s_3.1), (3, .int 0), (0, .ref h0), (1, .int p1)] → W p l e (headSpec wsX12_halvesBy ({ frames := 6, cells := 0, slots := 0, locals := 158 })).room s m ([.ref h0, .int p1] : List Value).toArray below meth c H locs 0 0 Q (F0 m 66 ls []) := by
          intro s_3 H locs ls hfn hP hD hS hl
          have hfn := zj_s ej_3 hfn
          obtain ⟨bd_4, ebd_4, hfn⟩ := zl_g hfn
          have lp_4 : ∀ (n : Nat) (s_4 : Int32 × Int32 × Int32 × Int32 × Int32 × Int32 × (Nat → Int64) × (Nat → Int64) × (Nat → Int32) × (Nat → Int64) × (Nat → Int32) × (Nat → Int32) × (Nat → Int32) × (Nat → Int32)) (H : Heap) (locs : List Loc) (ls : Array Slot), zl bd_4 n s_4 = some o → va_P (dC, dI) vwCl [(h0, .inr (12, zO a0 (zI (zI (zI (zI b0 41 s_4.2.2.1) 42 s_4.2.2.2.1) 44 s_4.2.2.2.2.1) 45 s_4.2.2.2.2.2.1) c0)), zVi (a0 46) k1 14 s_4.2.2.2.2.2.2.2.2.2.2.2.1, zVi (a0 47) k2 14 s_1.2.2, zVi (a0 48) k3 64 s_4.2.2.2.2.2.2.2.2.2.2.2.2.1, zVi (a0 49) k4 64 s_4.2.2.2.2.2.2.2.2.2.2.2.2.2, zVi (a0 17) k5 2 f5, zVi (a0 43) k6 14 s_4.2.2.2.2.2.2.2.2.2.2.1, zVi (a0 39) k7 14 s_4.2.2.2.2.2.2.2.2.1, zVi (a0 29) k8 14 f8, zVi (a0 27) k9 28 f9, zVi (a0 19) k10 28 f10, zVi (a0 20) k11 28 f11, zVi (a0 21) k12 28 f12, zVl (a0 31) k13 14 s_4.2.2.2.2.2.2.1, zVl (a0 22) k14 28 f14, zVl (a0 23) k15 28 f15, zVl (a0 32) k16 14 s_4.2.2.2.2.2.2.2.1, zVi (a0 14) k17 8 f17, zVl (a0 40) k18 14 s_4.2.2.2.2.2.2.2.2.2.1, zVi (a0 15) k19 8 f19, zVi (a0 26) k20 28 f20, zVi (a0 24) k21 2 f21, zVi (a0 16) k22 8 f22] H → va_D A [(h0, .inr (12, zO a0 (zI (zI (zI (zI b0 41 s_4.2.2.1) 42 s_4.2.2.2.1) 44 s_4.2.2.2.2.1) 45 s_4.2.2.2.2.2.1) c0)), zVi (a0 46) k1 14 s_4.2.2.2.2.2.2.2.2.2.2.2.1, zVi (a0 47) k2 14 s_1.2.2, zVi (a0 48) k3 64 s_4.2.2.2.2.2.2.2.2.2.2.2.2.1, zVi (a0 49) k4 64 s_4.2.2.2.2.2.2.2.2.2.2.2.2.2, zVi (a0 17) k5 2 f5, zVi (a0 43) k6 14 s_4.2.2.2.2.2.2.2.2.2.2.1, zVi (a0 39) k7 14 s_4.2.2.2.2.2.2.2.2.1, zVi (a0 29) k8 14 f8, zVi (a0 27) k9 28 f9, zVi (a0 19) k10 28 f10, zVi (a0 20) k11 28 f11, zVi (a0 21) k12 28 f12, zVl (a0 31) k13 14 s_4.2.2.2.2.2.2.1, zVl (a0 22) k14 28 f14, zVl (a0 23) k15 28 f15, zVl (a0 32) k16 14 s_4.2.2.2.2.2.2.2.1, zVi (a0 14) k17 8 f17, zVl (a0 40) k18 14 s_4.2.2.2.2.2.2.2.2.2.1, zVi (a0 15) k19 8 f19, zVi (a0 26) k20 28 f20, zVi (a0 24) k21 2 f21, zVi (a0 16) k22 8 f22] → va_S A s.heap H locs → lv_has ls 7 [(4, .int s_4.2.1), (3, .int s_4.1), (0, .ref h0), (1, .int p1)] → W p l e (headSpec wsX12_halvesBy ({ frames := 6, cells := 0, slots := 0, locals := 158 })).room s m ([.ref h0, .int p1] : List Value).toArray below meth c H locs 0 0 Q (F0 m 66 ls []) := by
            intro n
            induction n with
            | zero => exact fun _ _ _ _ hfn => (zl_0 hfn).elim
            | succ n ih_4 =>
              intro s_4 H locs ls hfn hP hD hS hl
              have hfn := zl_s ebd_4 hfn
              refine lv_iload_n hx hb dX12_halvesBy_66 rfl (lv_at hl 1 rfl) ?_
              refine lv_iload hx hb dX12_halvesBy_67 (lv_at hl 0 rfl) ?_
              refine lv_icmp_ge (tgt := 170) hx hb dX12_halvesBy_69 (of_decide_eq_true rfl) (fun c_5 => ?_) (fun c_5 => ?_)
              · have hfn := (if_pos c_5).symm.trans hfn
                have ho := Option.some.inj hfn
                subst ho
                exact zrv hx hb hr hK hP hD hS hQ trivial hlocks dX12_halvesBy_170
              have hfn := (if_neg c_5).symm.trans hfn
              refine lv_aload_n hx hb dX12_halvesBy_72 rfl (lv_at hl 2 rfl) ?_
              refine va_get (D := (dC, dI)) (ci := 12) (v := .ref (a0 48)) (C := RX12) (T := TX12) (N := 67) hx hb hts zn_X12_halvesBy_X12 hown hK hP 0 rfl rfl 48 (of_decide_eq_true rfl) (hts (.fieldLink RX12 159 "ShortEnoughModel" "partFrom" "[I") zw_X12_halvesBy_1254) (fun _ h9 => h9) rfl dX12_halvesBy_73 ?_
              refine lv_iload_n hx hb dX12_halvesBy_76 rfl (lv_at hl 1 rfl) ?_
              obtain ⟨h_6, hfn⟩ := zg_s hfn
              refine va_iald hx hb hK hP 3 2 rfl rfl h_6 dX12_halvesBy_77 ?_
              refine lv_istore (lv' := [(5, .int (s_4.2.2.2.2.2.2.2.2.2.2.2.2.1 s_4.1.toNatClampNeg)), (4, .int s_4.2.1), (3, .int s_4.1), (0, .ref h0), (1, .int p1)]) hx hb dX12_halvesBy_78 hl (of_decide_eq_true rfl) rfl (fun ls hl => ?_)
              refine lv_aload_n hx hb dX12_halvesBy_80 rfl (lv_at hl 3 rfl) ?_
              refine va_get (D := (dC, dI)) (ci := 12) (v := .ref (a0 49)) (C := RX12) (T := TX12) (N := 67) hx hb hts zn_X12_halvesBy_X12 hown hK hP 0 rfl rfl 49 (of_decide_eq_true rfl) (hts (.fieldLink RX12 162 "ShortEnoughModel" "partMany" "[I") zw_X12_halvesBy_1255) (fun _ h9 => h9) rfl dX12_halvesBy_81 ?_
              refine lv_iload_n hx hb dX12_halvesBy_84 rfl (lv_at hl 2 rfl) ?_
              refine va_iald hx hb hK hP 4 3 rfl rfl h_6 dX12_halvesBy_85 ?_
              refine lv_istore (lv' := [(6, .int (s_4.2.2.2.2.2.2.2.2.2.2.2.2.2 s_4.1.toNatClampNeg)), (5, .int (s_4.2.2.2.2.2.2.2.2.2.2.2.2.1 s_4.1.toNatClampNeg)), (4, .int s_4.2.1), (3, .int s_4.1), (0, .ref h0), (1, .int p1)]) hx hb dX12_halvesBy_86 hl (of_decide_eq_true rfl) rfl (fun ls hl => ?_)
              refine lv_iinc (v := (s_4.1 + 1)) (lv' := [(3, .int (s_4.1 + 1)), (6, .int (s_4.2.2.2.2.2.2.2.2.2.2.2.2.2 s_4.1.toNatClampNeg)), (5, .int (s_4.2.2.2.2.2.2.2.2.2.2.2.2.1 s_4.1.toNatClampNeg)), (4, .int s_4.2.1), (0, .ref h0), (1, .int p1)]) hx hb dX12_halvesBy_88 hl (k := 3) rfl rfl (of_decide_eq_true rfl) rfl (fun ls hl => ?_)
              refine lv_aload_n hx hb dX12_halvesBy_91 rfl (lv_at hl 4 rfl) ?_
              refine lv_iload hx hb dX12_halvesBy_92 (lv_at hl 2 rfl) ?_
              refine lv_iload hx hb dX12_halvesBy_94 (lv_at hl 1 rfl) ?_
              refine lv_iload_n hx hb dX12_halvesBy_96 rfl (lv_at hl 5 rfl) ?_
              obtain ⟨o_7, hqo_7, hfn⟩ := zb_s hfn
              refine zcVb (ci := 12) (rest := []) (pc' := 100) (ws' := [(h0, .inr (12, zO a0 (zI (zI (zI (zI b0 41 o_7.2.1) 42 o_7.2.2.1) 44 o_7.2.2.2.1) 45 o_7.2.2.2.2.1) c0)), zVi (a0 46) k1 14 o_7.2.2.2.2.2.2.2.2.2.2, zVi (a0 47) k2 14 s_1.2.2, zVi (a0 48) k3 64 s_4.2.2.2.2.2.2.2.2.2.2.2.2.1, zVi (a0 49) k4 64 s_4.2.2.2.2.2.2.2.2.2.2.2.2.2, zVi (a0 17) k5 2 f5, zVi (a0 43) k6 14 o_7.2.2.2.2.2.1, zVi (a0 39) k7 14 o_7.2.2.2.2.2.2.1, zVi (a0 29) k8 14 f8, zVi (a0 27) k9 28 f9, zVi (a0 19) k10 28 f10, zVi (a0 20) k11 28 f11, zVi (a0 21) k12 28 f12, zVl (a0 31) k13 14 o_7.2.2.2.2.2.2.2.1, zVl (a0 22) k14 28 f14, zVl (a0 23) k15 28 f15, zVl (a0 32) k16 14 o_7.2.2.2.2.2.2.2.2.1, zVi (a0 14) k17 8 f17, zVl (a0 40) k18 14 o_7.2.2.2.2.2.2.2.2.2.1, zVi (a0 15) k19 8 f19, zVi (a0 26) k20 28 f20, zVi (a0 24) k21 2 f21, zVi (a0 16) k22 8 f22]) hP hK hD hS hA ⟨hx, hb, hml, hown, hts⟩ (zf_X12_isBetter l dC dI h0 (s_4.2.2.2.2.2.2.2.2.2.2.2.2.1 s_4.1.toNatClampNeg) (s_4.2.2.2.2.2.2.2.2.2.2.2.2.2 s_4.1.toNatClampNeg) p1 a0 (zI (zI (zI (zI b0 41 s_4.2.2.1) 42 s_4.2.2.2.1) 44 s_4.2.2.2.2.1) 45 s_4.2.2.2.2.2.1) c0 k5 f5 k6 s_4.2.2.2.2.2.2.2.2.2.2.1 k7 s_4.2.2.2.2.2.2.2.2.1 k2 s_1.2.2 k8 f8 k9 f9 k10 f10 k11 f11 k12 f12 k13 s_4.2.2.2.2.2.2.1 k14 f14 k15 f15 k16 s_4.2.2.2.2.2.2.2.1 k17 f17 k18 s_4.2.2.2.2.2.2.2.2.2.1 k19 f19 k20 f20 k21 f21 k22 f22 k1 s_4.2.2.2.2.2.2.2.2.2.2.2.1 o_7 hqo_7 H.size) (cwV 3 hts gX12_halvesBy_X12_isBetter rfl rfl rfl zhd_X12_isBetter ⟨Nat.le_of_ble_eq_true rfl, Nat.le_of_ble_eq_true rfl⟩) [0, 5, 6, 7, 2, 8, 9, 10, 11, 12, 13, 14, 15, 16, 17, 18, 19, 20, 21, 22, 1] rfl (of_decide_eq_true rfl) [4, 5, 6, 1, 7, 8, 9, 10, 11, 12, 13, 14, 15, 16, 17, 18, 19, 20, 21, 0] rfl rfl rfl rfl hl.1 rfl (Nat.le_of_ble_eq_true rfl) dX12_halvesBy_97 ⟨Nat.le_of_ble_eq_true rfl, Nat.le_of_ble_eq_true rfl⟩ [some 0, some 20, some 4, none, none, some 1, some 2, some 3, some 5, some 6, some 7, some 8, some 9, some 10, some 11, some 12, some 13, some 14, some 15, some 16, some 17, some 18, some 19] (of_decide_eq_true rfl) (of_decide_eq_true rfl) rfl rfl rfl (fun H locs hw_10n hP hD hS => ?_)
              refine lv_if_ne (tgt := 66) hx hb dX12_halvesBy_100 (of_decide_eq_true rfl) (fun c_11 => ?_) (fun c_11 => ?_)
              · have hfn := (if_neg c_11).symm.trans hfn
                exact ih_4 ((s_4.1 + 1), s_4.2.1, o_7.2.1, o_7.2.2.1, o_7.2.2.2.1, o_7.2.2.2.2.1, o_7.2.2.2.2.2.2.2.1, o_7.2.2.2.2.2.2.2.2.1, o_7.2.2.2.2.2.2.1, o_7.2.2.2.2.2.2.2.2.2.1, o_7.2.2.2.2.2.1, o_7.2.2.2.2.2.2.2.2.2.2, s_4.2.2.2.2.2.2.2.2.2.2.2.2.1, s_4.2.2.2.2.2.2.2.2.2.2.2.2.2) H locs ls hfn hP hD hS (lv_sub hl [3, 0, 4, 5] rfl)
              have hfn := (if_pos c_11).symm.trans hfn
              refine lv_iload hx hb dX12_halvesBy_103 (lv_at hl 1 rfl) ?_
              refine lv_iconst (v := 2) hx hb dX12_halvesBy_105 zci_2 ?_
              refine lv_icmp_ge (tgt := 112) hx hb dX12_halvesBy_106 (of_decide_eq_true rfl) (fun c_12 => ?_) (fun c_12 => ?_)
              · have hfn := (if_pos c_12).symm.trans hfn
                refine lv_aload_n hx hb dX12_halvesBy_112 rfl (lv_at hl 4 rfl) ?_
                refine va_get (D := (dC, dI)) (ci := 12) (v := .ref (a0 48)) (C := RX12) (T := TX12) (N := 67) hx hb hts zn_X12_halvesBy_X12 hown hK hP 0 rfl rfl 48 (of_decide_eq_true rfl) (hts (.fieldLink RX12 159 "ShortEnoughModel" "partFrom" "[I") zw_X12_halvesBy_1254) (fun _ h9 => h9) rfl dX12_halvesBy_113 ?_
                refine lv_iload hx hb dX12_halvesBy_116 (lv_at hl 3 rfl) ?_
                refine lv_iload hx hb dX12_halvesBy_118 (lv_at hl 2 rfl) ?_
                obtain ⟨h_13, hfn⟩ := zg_s hfn
                refine va_iast hx hb hK hP hD hS 3 2 rfl rfl h_13 dX12_halvesBy_120 (fun H locs hP hD hS => ?_)
                obtain ⟨g_14, eg_14⟩ : ∃ g : Nat → Int32, g = (upd s_4.2.2.2.2.2.2.2.2.2.2.2.2.1 s_4.2.1.toNatClampNeg (s_4.2.2.2.2.2.2.2.2.2.2.2.2.1 s_4.1.toNatClampNeg)) := ⟨_, rfl⟩
                have hfn := zn_s hfn eg_14
                have hP : va_P (dC, dI) vwCl [(h0, .inr (12, zO a0 (zI (zI (zI (zI b0 41 o_7.2.1) 42 o_7.2.2.1) 44 o_7.2.2.2.1) 45 o_7.2.2.2.2.1) c0)), zVi (a0 46) k1 14 o_7.2.2.2.2.2.2.2.2.2.2, zVi (a0 47) k2 14 s_1.2.2, zVi (a0 48) k3 64 g_14, zVi (a0 49) k4 64 s_4.2.2.2.2.2.2.2.2.2.2.2.2.2, zVi (a0 17) k5 2 f5, zVi (a0 43) k6 14 o_7.2.2.2.2.2.1, zVi (a0 39) k7 14 o_7.2.2.2.2.2.2.1, zVi (a0 29) k8 14 f8, zVi (a0 27) k9 28 f9, zVi (a0 19) k10 28 f10, zVi (a0 20) k11 28 f11, zVi (a0 21) k12 28 f12, zVl (a0 31) k13 14 o_7.2.2.2.2.2.2.2.1, zVl (a0 22) k14 28 f14, zVl (a0 23) k15 28 f15, zVl (a0 32) k16 14 o_7.2.2.2.2.2.2.2.2.1, zVi (a0 14) k17 8 f17, zVl (a0 40) k18 14 o_7.2.2.2.2.2.2.2.2.2.1, zVi (a0 15) k19 8 f19, zVi (a0 26) k20 28 f20, zVi (a0 24) k21 2 f21, zVi (a0 16) k22 8 f22] H := by rw [eg_14]; exact hP
                have hD : va_D A [(h0, .inr (12, zO a0 (zI (zI (zI (zI b0 41 o_7.2.1) 42 o_7.2.2.1) 44 o_7.2.2.2.1) 45 o_7.2.2.2.2.1) c0)), zVi (a0 46) k1 14 o_7.2.2.2.2.2.2.2.2.2.2, zVi (a0 47) k2 14 s_1.2.2, zVi (a0 48) k3 64 g_14, zVi (a0 49) k4 64 s_4.2.2.2.2.2.2.2.2.2.2.2.2.2, zVi (a0 17) k5 2 f5, zVi (a0 43) k6 14 o_7.2.2.2.2.2.1, zVi (a0 39) k7 14 o_7.2.2.2.2.2.2.1, zVi (a0 29) k8 14 f8, zVi (a0 27) k9 28 f9, zVi (a0 19) k10 28 f10, zVi (a0 20) k11 28 f11, zVi (a0 21) k12 28 f12, zVl (a0 31) k13 14 o_7.2.2.2.2.2.2.2.1, zVl (a0 22) k14 28 f14, zVl (a0 23) k15 28 f15, zVl (a0 32) k16 14 o_7.2.2.2.2.2.2.2.2.1, zVi (a0 14) k17 8 f17, zVl (a0 40) k18 14 o_7.2.2.2.2.2.2.2.2.2.1, zVi (a0 15) k19 8 f19, zVi (a0 26) k20 28 f20, zVi (a0 24) k21 2 f21, zVi (a0 16) k22 8 f22] := by rw [eg_14]; exact hD
                refine lv_aload_n hx hb dX12_halvesBy_121 rfl (lv_at hl 4 rfl) ?_
                refine va_get (D := (dC, dI)) (ci := 12) (v := .ref (a0 49)) (C := RX12) (T := TX12) (N := 67) hx hb hts zn_X12_halvesBy_X12 hown hK hP 0 rfl rfl 49 (of_decide_eq_true rfl) (hts (.fieldLink RX12 162 "ShortEnoughModel" "partMany" "[I") zw_X12_halvesBy_1255) (fun _ h9 => h9) rfl dX12_halvesBy_122 ?_
                refine lv_iload hx hb dX12_halvesBy_125 (lv_at hl 3 rfl) ?_
                refine lv_iload hx hb dX12_halvesBy_127 (lv_at hl 1 rfl) ?_
                refine lv_iconst (v := 2) hx hb dX12_halvesBy_129 zci_2 ?_
                refine lv_idiv hx hb dX12_halvesBy_130 (by decide +kernel) ?_
                refine va_iast hx hb hK hP hD hS 4 3 rfl rfl h_13 dX12_halvesBy_131 (fun H locs hP hD hS => ?_)
                obtain ⟨g_15, eg_15⟩ : ∃ g : Nat → Int32, g = (upd s_4.2.2.2.2.2.2.2.2.2.2.2.2.2 s_4.2.1.toNatClampNeg ((s_4.2.2.2.2.2.2.2.2.2.2.2.2.2 s_4.1.toNatClampNeg) / 2)) := ⟨_, rfl⟩
                have hfn := zn_s hfn eg_15
                have hP : va_P (dC, dI) vwCl [(h0, .inr (12, zO a0 (zI (zI (zI (zI b0 41 o_7.2.1) 42 o_7.2.2.1) 44 o_7.2.2.2.1) 45 o_7.2.2.2.2.1) c0)), zVi (a0 46) k1 14 o_7.2.2.2.2.2.2.2.2.2.2, zVi (a0 47) k2 14 s_1.2.2, zVi (a0 48) k3 64 g_14, zVi (a0 49) k4 64 g_15, zVi (a0 17) k5 2 f5, zVi (a0 43) k6 14 o_7.2.2.2.2.2.1, zVi (a0 39) k7 14 o_7.2.2.2.2.2.2.1, zVi (a0 29) k8 14 f8, zVi (a0 27) k9 28 f9, zVi (a0 19) k10 28 f10, zVi (a0 20) k11 28 f11, zVi (a0 21) k12 28 f12, zVl (a0 31) k13 14 o_7.2.2.2.2.2.2.2.1, zVl (a0 22) k14 28 f14, zVl (a0 23) k15 28 f15, zVl (a0 32) k16 14 o_7.2.2.2.2.2.2.2.2.1, zVi (a0 14) k17 8 f17, zVl (a0 40) k18 14 o_7.2.2.2.2.2.2.2.2.2.1, zVi (a0 15) k19 8 f19, zVi (a0 26) k20 28 f20, zVi (a0 24) k21 2 f21, zVi (a0 16) k22 8 f22] H := by rw [eg_15]; exact hP
                have hD : va_D A [(h0, .inr (12, zO a0 (zI (zI (zI (zI b0 41 o_7.2.1) 42 o_7.2.2.1) 44 o_7.2.2.2.1) 45 o_7.2.2.2.2.1) c0)), zVi (a0 46) k1 14 o_7.2.2.2.2.2.2.2.2.2.2, zVi (a0 47) k2 14 s_1.2.2, zVi (a0 48) k3 64 g_14, zVi (a0 49) k4 64 g_15, zVi (a0 17) k5 2 f5, zVi (a0 43) k6 14 o_7.2.2.2.2.2.1, zVi (a0 39) k7 14 o_7.2.2.2.2.2.2.1, zVi (a0 29) k8 14 f8, zVi (a0 27) k9 28 f9, zVi (a0 19) k10 28 f10, zVi (a0 20) k11 28 f11, zVi (a0 21) k12 28 f12, zVl (a0 31) k13 14 o_7.2.2.2.2.2.2.2.1, zVl (a0 22) k14 28 f14, zVl (a0 23) k15 28 f15, zVl (a0 32) k16 14 o_7.2.2.2.2.2.2.2.2.1, zVi (a0 14) k17 8 f17, zVl (a0 40) k18 14 o_7.2.2.2.2.2.2.2.2.2.1, zVi (a0 15) k19 8 f19, zVi (a0 26) k20 28 f20, zVi (a0 24) k21 2 f21, zVi (a0 16) k22 8 f22] := by rw [eg_15]; exact hD
                refine lv_aload_n hx hb dX12_halvesBy_132 rfl (lv_at hl 4 rfl) ?_
                refine va_get (D := (dC, dI)) (ci := 12) (v := .ref (a0 48)) (C := RX12) (T := TX12) (N := 67) hx hb hts zn_X12_halvesBy_X12 hown hK hP 0 rfl rfl 48 (of_decide_eq_true rfl) (hts (.fieldLink RX12 159 "ShortEnoughModel" "partFrom" "[I") zw_X12_halvesBy_1254) (fun _ h9 => h9) rfl dX12_halvesBy_133 ?_
                refine lv_iload hx hb dX12_halvesBy_136 (lv_at hl 3 rfl) ?_
                refine lv_iconst (v := 1) hx hb dX12_halvesBy_138 zci_1 ?_
                refine lv_iadd hx hb dX12_halvesBy_139 ?_
                refine lv_iload hx hb dX12_halvesBy_140 (lv_at hl 2 rfl) ?_
                refine lv_iload hx hb dX12_halvesBy_142 (lv_at hl 1 rfl) ?_
                refine lv_iconst (v := 2) hx hb dX12_halvesBy_144 zci_2 ?_
                refine lv_idiv hx hb dX12_halvesBy_145 (by decide +kernel) ?_
                refine lv_iadd hx hb dX12_halvesBy_146 ?_
                refine lv_topi (fun x_16 ex_16 => ?_)
                have hfn := zn_s hfn ex_16
                obtain ⟨h_17, hfn⟩ := zg_s hfn
                refine va_iast hx hb hK hP hD hS 3 2 rfl rfl h_17 dX12_halvesBy_147 (fun H locs hP hD hS => ?_)
                have hP : va_P (dC, dI) vwCl [(h0, .inr (12, zO a0 (zI (zI (zI (zI b0 41 o_7.2.1) 42 o_7.2.2.1) 44 o_7.2.2.2.1) 45 o_7.2.2.2.2.1) c0)), zVi (a0 46) k1 14 o_7.2.2.2.2.2.2.2.2.2.2, zVi (a0 47) k2 14 s_1.2.2, zVi (a0 48) k3 64 (upd g_14 (s_4.2.1 + 1).toNatClampNeg x_16), zVi (a0 49) k4 64 g_15, zVi (a0 17) k5 2 f5, zVi (a0 43) k6 14 o_7.2.2.2.2.2.1, zVi (a0 39) k7 14 o_7.2.2.2.2.2.2.1, zVi (a0 29) k8 14 f8, zVi (a0 27) k9 28 f9, zVi (a0 19) k10 28 f10, zVi (a0 20) k11 28 f11, zVi (a0 21) k12 28 f12, zVl (a0 31) k13 14 o_7.2.2.2.2.2.2.2.1, zVl (a0 22) k14 28 f14, zVl (a0 23) k15 28 f15, zVl (a0 32) k16 14 o_7.2.2.2.2.2.2.2.2.1, zVi (a0 14) k17 8 f17, zVl (a0 40) k18 14 o_7.2.2.2.2.2.2.2.2.2.1, zVi (a0 15) k19 8 f19, zVi (a0 26) k20 28 f20, zVi (a0 24) k21 2 f21, zVi (a0 16) k22 8 f22] H := hP
                have hD := zDW hD hP rfl
                refine lv_aload_n hx hb dX12_halvesBy_148 rfl (lv_at hl 4 rfl) ?_
                refine va_get (D := (dC, dI)) (ci := 12) (v := .ref (a0 49)) (C := RX12) (T := TX12) (N := 67) hx hb hts zn_X12_halvesBy_X12 hown hK hP 0 rfl rfl 49 (of_decide_eq_true rfl) (hts (.fieldLink RX12 162 "ShortEnoughModel" "partMany" "[I") zw_X12_halvesBy_1255) (fun _ h9 => h9) rfl dX12_halvesBy_149 ?_
                refine lv_iload hx hb dX12_halvesBy_152 (lv_at hl 3 rfl) ?_
                refine lv_iconst (v := 1) hx hb dX12_halvesBy_154 zci_1 ?_
                refine lv_iadd hx hb dX12_halvesBy_155 ?_
                refine lv_iload hx hb dX12_halvesBy_156 (lv_at hl 1 rfl) ?_
                refine lv_iload hx hb dX12_halvesBy_158 (lv_at hl 1 rfl) ?_
                refine lv_iconst (v := 2) hx hb dX12_halvesBy_160 zci_2 ?_
                refine lv_idiv hx hb dX12_halvesBy_161 (by decide +kernel) ?_
                refine lv_isub hx hb dX12_halvesBy_162 ?_
                refine lv_topi (fun x_18 ex_18 => ?_)
                have hfn := zn_s hfn ex_18
                refine va_iast hx hb hK hP hD hS 4 3 rfl rfl h_17 dX12_halvesBy_163 (fun H locs hP hD hS => ?_)
                have hP : va_P (dC, dI) vwCl [(h0, .inr (12, zO a0 (zI (zI (zI (zI b0 41 o_7.2.1) 42 o_7.2.2.1) 44 o_7.2.2.2.1) 45 o_7.2.2.2.2.1) c0)), zVi (a0 46) k1 14 o_7.2.2.2.2.2.2.2.2.2.2, zVi (a0 47) k2 14 s_1.2.2, zVi (a0 48) k3 64 (upd g_14 (s_4.2.1 + 1).toNatClampNeg x_16), zVi (a0 49) k4 64 (upd g_15 (s_4.2.1 + 1).toNatClampNeg x_18), zVi (a0 17) k5 2 f5, zVi (a0 43) k6 14 o_7.2.2.2.2.2.1, zVi (a0 39) k7 14 o_7.2.2.2.2.2.2.1, zVi (a0 29) k8 14 f8, zVi (a0 27) k9 28 f9, zVi (a0 19) k10 28 f10, zVi (a0 20) k11 28 f11, zVi (a0 21) k12 28 f12, zVl (a0 31) k13 14 o_7.2.2.2.2.2.2.2.1, zVl (a0 22) k14 28 f14, zVl (a0 23) k15 28 f15, zVl (a0 32) k16 14 o_7.2.2.2.2.2.2.2.2.1, zVi (a0 14) k17 8 f17, zVl (a0 40) k18 14 o_7.2.2.2.2.2.2.2.2.2.1, zVi (a0 15) k19 8 f19, zVi (a0 26) k20 28 f20, zVi (a0 24) k21 2 f21, zVi (a0 16) k22 8 f22] H := hP
                have hD := zDW hD hP rfl
                refine lv_iinc (v := (s_4.2.1 + 2)) (lv' := [(4, .int (s_4.2.1 + 2)), (3, .int (s_4.1 + 1)), (6, .int (s_4.2.2.2.2.2.2.2.2.2.2.2.2.2 s_4.1.toNatClampNeg)), (5, .int (s_4.2.2.2.2.2.2.2.2.2.2.2.2.1 s_4.1.toNatClampNeg)), (0, .ref h0), (1, .int p1)]) hx hb dX12_halvesBy_164 hl (k := 3) rfl rfl (of_decide_eq_true rfl) rfl (fun ls hl => ?_)
                refine lv_goto (tgt := 66) hx hb dX12_halvesBy_167 (of_decide_eq_true rfl) ?_
                exact ih_4 ((s_4.1 + 1), (s_4.2.1 + 2), o_7.2.1, o_7.2.2.1, o_7.2.2.2.1, o_7.2.2.2.2.1, o_7.2.2.2.2.2.2.2.1, o_7.2.2.2.2.2.2.2.2.1, o_7.2.2.2.2.2.2.1, o_7.2.2.2.2.2.2.2.2.2.1, o_7.2.2.2.2.2.1, o_7.2.2.2.2.2.2.2.2.2.2, (upd g_14 (s_4.2.1 + 1).toNatClampNeg x_16), (upd g_15 (s_4.2.1 + 1).toNatClampNeg x_18)) H locs ls hfn hP hD hS (lv_sub hl [0, 1, 4, 5] rfl)
              have hfn := (if_neg c_12).symm.trans hfn
              refine lv_goto (tgt := 66) hx hb dX12_halvesBy_109 (of_decide_eq_true rfl) ?_
              exact ih_4 ((s_4.1 + 1), s_4.2.1, o_7.2.1, o_7.2.2.1, o_7.2.2.2.1, o_7.2.2.2.2.1, o_7.2.2.2.2.2.2.2.1, o_7.2.2.2.2.2.2.2.2.1, o_7.2.2.2.2.2.2.1, o_7.2.2.2.2.2.2.2.2.2.1, o_7.2.2.2.2.2.1, o_7.2.2.2.2.2.2.2.2.2.2, s_4.2.2.2.2.2.2.2.2.2.2.2.2.1, s_4.2.2.2.2.2.2.2.2.2.2.2.2.2) H locs ls hfn hP hD hS (lv_sub hl [3, 0, 4, 5] rfl)
          exact lp_4 _ (0, s_3.1, (b0 41), (b0 42), (b0 44), (b0 45), f13, f16, f7, f18, f6, f1, s_3.2.1, s_3.2.2) H locs ls hfn hP hD hS (lv_sub hl [0, 1, 2, 3] rfl)
        refine lv_if_le (tgt := 66) hx hb dX12_halvesBy_46 (of_decide_eq_true rfl) (fun c_19 => ?_) (fun c_19 => ?_)
        · have hfn := (if_pos c_19).symm.trans hfn
          exact jp_3 (0, f3, f4) H locs ls hfn hP hD hS (lv_sub hl [0, 1, 3, 4] rfl)
        have hfn := (if_neg c_19).symm.trans hfn
        refine lv_aload_n hx hb dX12_halvesBy_49 rfl (lv_at hl 3 rfl) ?_
        refine va_get (D := (dC, dI)) (ci := 12) (v := .ref (a0 48)) (C := RX12) (T := TX12) (N := 67) hx hb hts zn_X12_halvesBy_X12 hown hK hP 0 rfl rfl 48 (of_decide_eq_true rfl) (hts (.fieldLink RX12 159 "ShortEnoughModel" "partFrom" "[I") zw_X12_halvesBy_1254) (fun _ h9 => h9) rfl dX12_halvesBy_50 ?_
        refine lv_iconst (v := 0) hx hb dX12_halvesBy_53 zci_0 ?_
        refine lv_iconst (v := 0) hx hb dX12_halvesBy_54 zci_0 ?_
        refine va_iast hx hb hK hP hD hS 3 2 rfl rfl (zv_in (by decide +kernel)) dX12_halvesBy_55 (fun H locs hP hD hS => ?_)
        have hP : va_P (dC, dI) vwCl [(h0, .inr (12, zO a0 b0 c0)), zVi (a0 46) k1 14 f1, zVi (a0 47) k2 14 s_1.2.2, zVi (a0 48) k3 64 (upd f3 (0 : Int32).toNatClampNeg 0), zVi (a0 49) k4 64 f4, zVi (a0 17) k5 2 f5, zVi (a0 43) k6 14 f6, zVi (a0 39) k7 14 f7, zVi (a0 29) k8 14 f8, zVi (a0 27) k9 28 f9, zVi (a0 19) k10 28 f10, zVi (a0 20) k11 28 f11, zVi (a0 21) k12 28 f12, zVl (a0 31) k13 14 f13, zVl (a0 22) k14 28 f14, zVl (a0 23) k15 28 f15, zVl (a0 32) k16 14 f16, zVi (a0 14) k17 8 f17, zVl (a0 40) k18 14 f18, zVi (a0 15) k19 8 f19, zVi (a0 26) k20 28 f20, zVi (a0 24) k21 2 f21, zVi (a0 16) k22 8 f22] H := hP
        have hD := zDW hD hP rfl
        refine lv_aload_n hx hb dX12_halvesBy_56 rfl (lv_at hl 3 rfl) ?_
        refine va_get (D := (dC, dI)) (ci := 12) (v := .ref (a0 49)) (C := RX12) (T := TX12) (N := 67) hx hb hts zn_X12_halvesBy_X12 hown hK hP 0 rfl rfl 49 (of_decide_eq_true rfl) (hts (.fieldLink RX12 162 "ShortEnoughModel" "partMany" "[I") zw_X12_halvesBy_1255) (fun _ h9 => h9) rfl dX12_halvesBy_57 ?_
        refine lv_iconst (v := 0) hx hb dX12_halvesBy_60 zci_0 ?_
        refine lv_iload_n hx hb dX12_halvesBy_61 rfl (lv_at hl 2 rfl) ?_
        refine va_iast hx hb hK hP hD hS 4 3 rfl rfl (zv_in (by decide +kernel)) dX12_halvesBy_62 (fun H locs hP hD hS => ?_)
        have hP : va_P (dC, dI) vwCl [(h0, .inr (12, zO a0 b0 c0)), zVi (a0 46) k1 14 f1, zVi (a0 47) k2 14 s_1.2.2, zVi (a0 48) k3 64 (upd f3 (0 : Int32).toNatClampNeg 0), zVi (a0 49) k4 64 (upd f4 (0 : Int32).toNatClampNeg s_1.1), zVi (a0 17) k5 2 f5, zVi (a0 43) k6 14 f6, zVi (a0 39) k7 14 f7, zVi (a0 29) k8 14 f8, zVi (a0 27) k9 28 f9, zVi (a0 19) k10 28 f10, zVi (a0 20) k11 28 f11, zVi (a0 21) k12 28 f12, zVl (a0 31) k13 14 f13, zVl (a0 22) k14 28 f14, zVl (a0 23) k15 28 f15, zVl (a0 32) k16 14 f16, zVi (a0 14) k17 8 f17, zVl (a0 40) k18 14 f18, zVi (a0 15) k19 8 f19, zVi (a0 26) k20 28 f20, zVi (a0 24) k21 2 f21, zVi (a0 16) k22 8 f22] H := hP
        have hD := zDW hD hP rfl
        refine lv_iconst (v := 1) hx hb dX12_halvesBy_63 zci_1 ?_
        refine lv_istore (lv' := [(4, .int 1), (3, .int 0), (2, .int s_1.1), (0, .ref h0), (1, .int p1)]) hx hb dX12_halvesBy_64 hl (of_decide_eq_true rfl) rfl (fun ls hl => ?_)
        exact jp_3 (1, (upd f3 (0 : Int32).toNatClampNeg 0), (upd f4 (0 : Int32).toNatClampNeg s_1.1)) H locs ls hfn hP hD hS (lv_sub hl [0, 1, 3, 4] rfl)
      have hfn := (if_neg c_2).symm.trans hfn
      refine lv_aload_n hx hb dX12_halvesBy_12 rfl (lv_at hl 2 rfl) ?_
      refine va_get (D := (dC, dI)) (ci := 12) (v := .ref (a0 46)) (C := RX12) (T := TX12) (N := 67) hx hb hts zn_X12_halvesBy_X12 hown hK hP 0 rfl rfl 46 (of_decide_eq_true rfl) (hts (.fieldLink RX12 153 "ShortEnoughModel" "hasChanged" "[Z") zw_X12_halvesBy_1252) (fun _ h9 => h9) rfl dX12_halvesBy_13 ?_
      refine lv_iload_n hx hb dX12_halvesBy_16 rfl (lv_at hl 0 rfl) ?_
      obtain ⟨h_20, hfn⟩ := zg_s hfn
      refine va_zald hx hb hK hP 1 0 rfl rfl h_20 dX12_halvesBy_17 ?_
      refine lv_if_eq (tgt := 24) hx hb dX12_halvesBy_18 (of_decide_eq_true rfl) (fun c_21 => ?_) (fun c_21 => ?_)
      · have hfn := (if_pos c_21).symm.trans hfn
        refine lv_aload_n hx hb dX12_halvesBy_24 rfl (lv_at hl 2 rfl) ?_
        refine va_get (D := (dC, dI)) (ci := 12) (v := .ref (a0 47)) (C := RX12) (T := TX12) (N := 67) hx hb hts zn_X12_halvesBy_X12 hown hK hP 0 rfl rfl 47 (of_decide_eq_true rfl) (hts (.fieldLink RX12 156 "ShortEnoughModel" "row" "[I") zw_X12_halvesBy_1253) (fun _ h9 => h9) rfl dX12_halvesBy_25 ?_
        refine lv_iload_n hx hb dX12_halvesBy_28 rfl (lv_at hl 1 rfl) ?_
        refine lv_iload_n hx hb dX12_halvesBy_29 rfl (lv_at hl 0 rfl) ?_
        obtain ⟨h_22, hfn⟩ := zg_s hfn
        refine va_iast hx hb hK hP hD hS 2 1 rfl rfl h_22 dX12_halvesBy_30 (fun H locs hP hD hS => ?_)
        have hP : va_P (dC, dI) vwCl [(h0, .inr (12, zO a0 b0 c0)), zVi (a0 46) k1 14 f1, zVi (a0 47) k2 14 (upd s_1.2.2 s_1.1.toNatClampNeg s_1.2.1), zVi (a0 48) k3 64 f3, zVi (a0 49) k4 64 f4, zVi (a0 17) k5 2 f5, zVi (a0 43) k6 14 f6, zVi (a0 39) k7 14 f7, zVi (a0 29) k8 14 f8, zVi (a0 27) k9 28 f9, zVi (a0 19) k10 28 f10, zVi (a0 20) k11 28 f11, zVi (a0 21) k12 28 f12, zVl (a0 31) k13 14 f13, zVl (a0 22) k14 28 f14, zVl (a0 23) k15 28 f15, zVl (a0 32) k16 14 f16, zVi (a0 14) k17 8 f17, zVl (a0 40) k18 14 f18, zVi (a0 15) k19 8 f19, zVi (a0 26) k20 28 f20, zVi (a0 24) k21 2 f21, zVi (a0 16) k22 8 f22] H := hP
        have hD := zDW hD hP rfl
        refine lv_iinc (v := (s_1.1 + 1)) (lv' := [(2, .int (s_1.1 + 1)), (3, .int s_1.2.1), (0, .ref h0), (1, .int p1)]) hx hb dX12_halvesBy_31 hl (k := 1) rfl rfl (of_decide_eq_true rfl) rfl (fun ls hl => ?_)
        refine lv_iinc (v := (s_1.2.1 + 1)) (lv' := [(3, .int (s_1.2.1 + 1)), (2, .int (s_1.1 + 1)), (0, .ref h0), (1, .int p1)]) hx hb dX12_halvesBy_34 hl (k := 1) rfl rfl (of_decide_eq_true rfl) rfl (fun ls hl => ?_)
        refine lv_goto (tgt := 4) hx hb dX12_halvesBy_37 (of_decide_eq_true rfl) ?_
        exact ih_1 ((s_1.1 + 1), (s_1.2.1 + 1), (upd s_1.2.2 s_1.1.toNatClampNeg s_1.2.1)) H locs ls hfn hP hD hS (lv_sub hl [0, 1, 2, 3] rfl)
      have hfn := (if_neg c_21).symm.trans hfn
      refine lv_goto (tgt := 34) hx hb dX12_halvesBy_21 (of_decide_eq_true rfl) ?_
      refine lv_iinc (v := (s_1.2.1 + 1)) (lv' := [(3, .int (s_1.2.1 + 1)), (2, .int s_1.1), (0, .ref h0), (1, .int p1)]) hx hb dX12_halvesBy_34 hl (k := 0) rfl rfl (of_decide_eq_true rfl) rfl (fun ls hl => ?_)
      refine lv_goto (tgt := 4) hx hb dX12_halvesBy_37 (of_decide_eq_true rfl) ?_
      exact ih_1 (s_1.1, (s_1.2.1 + 1), s_1.2.2) H locs ls hfn hP hD hS (lv_sub hl [0, 1, 2, 3] rfl)
  exact lp_1 _ (0, 0, f2) s.heap [] ls hfn hP hD hS (lv_sub hl [0, 1, 2, 3] rfl)
theorem zn_X12_halve_X12 : ∀ w ∈ wsX120, w ∈ wsX12_halve := fun _ h => List.mem_cons_of_mem _ (List.mem_append_right _ h)
theorem zw_X12_halve_1257 : Cond.fieldLink RX12 112 "ShortEnoughModel" "wideNumber" "I" ∈ wsX12_halve := List.mem_of_getElem? (i := 1) (by decide +kernel)
theorem zw_X12_halve_1258 : Cond.fieldLink RX12 103 "ShortEnoughModel" "freeMany" "I" ∈ wsX12_halve := List.mem_of_getElem? (i := 2) (by decide +kernel)
theorem zw_X12_halve_1259 : Cond.fieldLink RX12 100 "ShortEnoughModel" "free" "[I" ∈ wsX12_halve := List.mem_of_getElem? (i := 3) (by decide +kernel)
theorem zw_X12_halve_1260 : Cond.fieldLink RX12 153 "ShortEnoughModel" "hasChanged" "[Z" ∈ wsX12_halve := List.mem_of_getElem? (i := 4) (by decide +kernel)
theorem zw_X12_halve_1261 : Cond.fieldLink RX12 150 "ShortEnoughModel" "tries" "I" ∈ wsX12_halve := List.mem_of_getElem? (i := 5) (by decide +kernel)
theorem zw_X12_halve_1262 : Cond.fieldLink RX12 47 "ShortEnoughModel" "formats" "[I" ∈ wsX12_halve := List.mem_of_getElem? (i := 6) (by decide +kernel)
set_option maxHeartbeats 4000000 in
set_option maxRecDepth 100000 in
theorem zf_X12_halve (l : Launch) (dC : Nat → ClassId) (dI : Nat → Nat → Nat) (h0 : Nat) (a0 : Nat → Nat) (b0 : Nat → Int32) (c0 : Nat → Int64) (k1 : Nat) (f1 : Nat → Int32) (k2 : Nat) (f2 : Nat → Int32) (k3 : Nat) (f3 : Nat → Int32) (k4 : Nat) (f4 : Nat → Int32) (k5 : Nat) (f5 : Nat → Int32) (k6 : Nat) (f6 : Nat → Int32) (k7 : Nat) (f7 : Nat → Int32) (k8 : Nat) (f8 : Nat → Int32) (k9 : Nat) (f9 : Nat → Int32) (k10 : Nat) (f10 : Nat → Int32) (k11 : Nat) (f11 : Nat → Int32) (k12 : Nat) (f12 : Nat → Int32) (k13 : Nat) (f13 : Nat → Int64) (k14 : Nat) (f14 : Nat → Int64) (k15 : Nat) (f15 : Nat → Int64) (k16 : Nat) (f16 : Nat → Int64) (k17 : Nat) (f17 : Nat → Int64) (k18 : Nat) (f18 : Nat → Int32) (k19 : Nat) (f19 : Nat → Int32) (k20 : Nat) (f20 : Nat → Int32) (k21 : Nat) (f21 : Nat → Int32) (k22 : Nat) (f22 : Nat → Int32) (k23 : Nat) (f23 : Nat → Int32) (k24 : Nat) (f24 : Nat → Int32) (k25 : Nat) (f25 : Nat → Int32) (o : Int32 × Int32 × Int32 × Int32 × Int32 × Int32 × Int32 × (Nat → Int32) × (Nat → Int32) × (Nat → Int32) × (Nat → Int64) × (Nat → Int64) × (Nat → Int64) × (Nat → Int32) × (Nat → Int32) × (Nat → Int32) × (Nat → Int32)) (hfn : fn_X12_halve (c0 34) (b0 38) (b0 41) (b0 42) (b0 44) (b0 45) f1 f2 f3 f4 f5 f6 f7 f8 f9 f10 f11 f12 f13 f14 f15 f16 f17 f18 f19 f20 f21 f22 f23 f24 f25 = some o) (sz : Nat) : zMi l yX12_halve wsX12_halve ({ frames := 7, cells := 0, slots := 0, locals := 184 }) (dC, dI) vwCl [.ref h0] [(h0, .inr (12, zO a0 b0 c0)), zVi (a0 17) k1 2 f1, zVi (a0 27) k2 28 f2, zVi (a0 25) k3 28 f3, zVi (a0 29) k4 14 f4, zVi (a0 12) k5 2 f5, zVi (a0 14) k6 8 f6, zVi (a0 37) k7 14 f7, zVi (a0 39) k8 14 f8, zVi (a0 46) k9 14 f9, zVi (a0 19) k10 28 f10, zVi (a0 20) k11 28 f11, zVi (a0 21) k12 28 f12, zVl (a0 31) k13 14 f13, zVl (a0 22) k14 28 f14, zVl (a0 23) k15 28 f15, zVl (a0 32) k16 14 f16, zVl (a0 40) k17 14 f17, zVi (a0 15) k18 8 f18, zVi (a0 26) k19 28 f19, zVi (a0 43) k20 14 f20, zVi (a0 24) k21 2 f21, zVi (a0 16) k22 8 f22, zVi (a0 47) k23 14 f23, zVi (a0 48) k24 64 f24, zVi (a0 49) k25 64 f25] [(k1, .int), (k2, .int), (k3, .int), (k4, .int), (k5, .int), (k6, .int), (k7, .int), (k8, .int), (k9, .boolean), (k10, .int), (k11, .int), (k12, .int), (k13, .long), (k14, .long), (k15, .long), (k16, .long), (k17, .long), (k18, .int), (k19, .int), (k20, .int), (k21, .int), (k22, .int), (k23, .int), (k24, .int), (k25, .int)] (fun r _ => r = o.1 ∧ narrow .boolean (.int o.1) = .int o.1) [(h0, .inr (12, zO a0 (zI (zI (zI (zI (zI (zI b0 30 o.2.1) 33 o.2.2.1) 41 o.2.2.2.1) 42 o.2.2.2.2.1) 44 o.2.2.2.2.2.1) 45 o.2.2.2.2.2.2.1) c0)), zVi (a0 17) k1 2 f1, zVi (a0 27) k2 28 f2, zVi (a0 25) k3 28 f3, zVi (a0 29) k4 14 o.2.2.2.2.2.2.2.1, zVi (a0 12) k5 2 f5, zVi (a0 14) k6 8 f6, zVi (a0 37) k7 14 f7, zVi (a0 39) k8 14 o.2.2.2.2.2.2.2.2.1, zVi (a0 46) k9 14 o.2.2.2.2.2.2.2.2.2.1, zVi (a0 19) k10 28 f10, zVi (a0 20) k11 28 f11, zVi (a0 21) k12 28 f12, zVl (a0 31) k13 14 o.2.2.2.2.2.2.2.2.2.2.1, zVl (a0 22) k14 28 f14, zVl (a0 23) k15 28 f15, zVl (a0 32) k16 14 o.2.2.2.2.2.2.2.2.2.2.2.1, zVl (a0 40) k17 14 o.2.2.2.2.2.2.2.2.2.2.2.2.1, zVi (a0 15) k18 8 f18, zVi (a0 26) k19 28 f19, zVi (a0 43) k20 14 o.2.2.2.2.2.2.2.2.2.2.2.2.2.1, zVi (a0 24) k21 2 f21, zVi (a0 16) k22 8 f22, zVi (a0 47) k23 14 o.2.2.2.2.2.2.2.2.2.2.2.2.2.2.1, zVi (a0 48) k24 64 o.2.2.2.2.2.2.2.2.2.2.2.2.2.2.2.1, zVi (a0 49) k25 64 o.2.2.2.2.2.2.2.2.2.2.2.2.2.2.2.2] [(k1, .int), (k2, .int), (k3, .int), (k4, .int), (k5, .int), (k6, .int), (k7, .int), (k8, .int), (k9, .boolean), (k10, .int), (k11, .int), (k12, .int), (k13, .long), (k14, .long), (k15, .long), (k16, .long), (k17, .long), (k18, .int), (k19, .int), (k20, .int), (k21, .int), (k22, .int), (k23, .int), (k24, .int), (k25, .int)] sz := by
  refine zgoi (cc := cX12_halve) (maxL := 3) (ret := (some .boolean)) (C0 := RX12) (lv0 := [(0, .ref h0)]) zpl_X12 rfl rfl rfl (Nat.le_of_ble_eq_true rfl) ?_
  intro p e s m below meth c A ls Q hx hb hr hts hown hlocks hml hP hK hD hA hS hl hQ
  unfold fn_X12_halve at hfn
  refine lv_aload_n hx hb dX12_halve_0 rfl (lv_at hl 0 rfl) ?_
  obtain ⟨o_1, hqo_1, hfn⟩ := zb_s hfn
  refine zcVv (ci := 12) (rest := []) (pc' := 4) (ws' := [(h0, .inr (12, zO a0 (zI b0 30 o_1.1) c0)), zVi (a0 17) k1 2 f1, zVi (a0 27) k2 28 f2, zVi (a0 25) k3 28 f3, zVi (a0 29) k4 14 o_1.2, zVi (a0 12) k5 2 f5, zVi (a0 14) k6 8 f6, zVi (a0 37) k7 14 f7, zVi (a0 39) k8 14 f8, zVi (a0 46) k9 14 f9, zVi (a0 19) k10 28 f10, zVi (a0 20) k11 28 f11, zVi (a0 21) k12 28 f12, zVl (a0 31) k13 14 f13, zVl (a0 22) k14 28 f14, zVl (a0 23) k15 28 f15, zVl (a0 32) k16 14 f16, zVl (a0 40) k17 14 f17, zVi (a0 15) k18 8 f18, zVi (a0 26) k19 28 f19, zVi (a0 43) k20 14 f20, zVi (a0 24) k21 2 f21, zVi (a0 16) k22 8 f22, zVi (a0 47) k23 14 f23, zVi (a0 48) k24 64 f24, zVi (a0 49) k25 64 f25]) hP hK hD hS hA ⟨hx, hb, hml, hown, hts⟩ (zf_X12_laysFree l dC dI h0 a0 b0 c0 k1 f1 k2 f2 k3 f3 k4 f4 o_1 hqo_1 s.heap.size) (cwV 0 hts gX12_halve_X12_laysFree rfl rfl rfl zhd_X12_laysFree ⟨Nat.le_of_ble_eq_true rfl, Nat.le_of_ble_eq_true rfl⟩) [0, 1, 2, 3, 4] rfl (of_decide_eq_true rfl) [0, 1, 2, 3] rfl rfl rfl rfl hl.1 rfl (Nat.le_of_ble_eq_true rfl) dX12_halve_1 ⟨Nat.le_of_ble_eq_true rfl, Nat.le_of_ble_eq_true rfl⟩ [some 0, some 1, some 2, some 3, some 4] (of_decide_eq_true rfl) (of_decide_eq_true rfl) rfl rfl rfl (fun H locs hP hD hS => ?_)
  refine lv_aload_n hx hb dX12_halve_4 rfl (lv_at hl 0 rfl) ?_
  refine lv_iconst (v := (-1)) hx hb dX12_halve_5 zci_m1 ?_
  refine va_put (D := (dC, dI)) (ci := 12) (v := .int (-1)) (ty := .int) (C := RX12) (T := TX12) (N := 67) hx hb hts zn_X12_halve_X12 tyX12 tyX12_ok nmX12 hown hK hP hD hS 0 rfl rfl 33 (of_decide_eq_true rfl) (hts (.fieldLink RX12 112 "ShortEnoughModel" "wideNumber" "I") zw_X12_halve_1257) (fun _ h9 => h9) rfl (tyX12_ok 33 (of_decide_eq_true rfl)) rfl rfl (Nat.le_of_ble_eq_true rfl) dX12_halve_6 (fun H locs hP hD hS => ?_)
  have hP : va_P (dC, dI) vwCl [(h0, .inr (12, zO a0 (zI (zI b0 30 o_1.1) 33 (-1)) c0)), zVi (a0 17) k1 2 f1, zVi (a0 27) k2 28 f2, zVi (a0 25) k3 28 f3, zVi (a0 29) k4 14 o_1.2, zVi (a0 12) k5 2 f5, zVi (a0 14) k6 8 f6, zVi (a0 37) k7 14 f7, zVi (a0 39) k8 14 f8, zVi (a0 46) k9 14 f9, zVi (a0 19) k10 28 f10, zVi (a0 20) k11 28 f11, zVi (a0 21) k12 28 f12, zVl (a0 31) k13 14 f13, zVl (a0 22) k14 28 f14, zVl (a0 23) k15 28 f15, zVl (a0 32) k16 14 f16, zVl (a0 40) k17 14 f17, zVi (a0 15) k18 8 f18, zVi (a0 26) k19 28 f19, zVi (a0 43) k20 14 f20, zVi (a0 24) k21 2 f21, zVi (a0 16) k22 8 f22, zVi (a0 47) k23 14 f23, zVi (a0 48) k24 64 f24, zVi (a0 49) k25 64 f25] H := hP
  have hD := zDW hD hP rfl
  refine lv_aload_n hx hb dX12_halve_9 rfl (lv_at hl 0 rfl) ?_
  obtain ⟨o_5, hqo_5, hfn⟩ := zb_s hfn
  refine zcVb (ci := 12) (rest := []) (pc' := 13) (ws' := [(h0, .inr (12, zO a0 (zI (zI b0 30 o_1.1) 33 (-1)) c0)), zVi (a0 17) k1 2 f1, zVi (a0 27) k2 28 f2, zVi (a0 25) k3 28 f3, zVi (a0 29) k4 14 o_1.2, zVi (a0 12) k5 2 f5, zVi (a0 14) k6 8 f6, zVi (a0 37) k7 14 f7, zVi (a0 39) k8 14 f8, zVi (a0 46) k9 14 f9, zVi (a0 19) k10 28 f10, zVi (a0 20) k11 28 f11, zVi (a0 21) k12 28 f12, zVl (a0 31) k13 14 f13, zVl (a0 22) k14 28 f14, zVl (a0 23) k15 28 f15, zVl (a0 32) k16 14 f16, zVl (a0 40) k17 14 f17, zVi (a0 15) k18 8 f18, zVi (a0 26) k19 28 f19, zVi (a0 43) k20 14 f20, zVi (a0 24) k21 2 f21, zVi (a0 16) k22 8 f22, zVi (a0 47) k23 14 f23, zVi (a0 48) k24 64 f24, zVi (a0 49) k25 64 f25]) hP hK hD hS hA ⟨hx, hb, hml, hown, hts⟩ (zf_X12_isThere l dC dI h0 a0 (zI (zI b0 30 o_1.1) 33 (-1)) c0 k1 f1 o_5 hqo_5 H.size) (cwV 0 hts gX12_halve_X12_isThere rfl rfl rfl zhd_X12_isThere ⟨Nat.le_of_ble_eq_true rfl, Nat.le_of_ble_eq_true rfl⟩) [0, 1] rfl (of_decide_eq_true rfl) [0] rfl rfl rfl rfl hl.1 rfl (Nat.le_of_ble_eq_true rfl) dX12_halve_10 ⟨Nat.le_of_ble_eq_true rfl, Nat.le_of_ble_eq_true rfl⟩ [some 0, some 1] (of_decide_eq_true rfl) (of_decide_eq_true rfl) rfl rfl rfl (fun H locs hw_8n hP hD hS => ?_)
  refine lv_if_ne (tgt := 18) hx hb dX12_halve_13 (of_decide_eq_true rfl) (fun c_9 => ?_) (fun c_9 => ?_)
  · have hfn := (if_neg c_9).symm.trans hfn
    refine lv_aload_n hx hb dX12_halve_18 rfl (lv_at hl 0 rfl) ?_
    obtain ⟨o_10, hqo_10, hfn⟩ := zb_s hfn
    refine zcVi (ci := 12) (rest := []) (pc' := 22) (ws' := [(h0, .inr (12, zO a0 (zI (zI b0 30 o_1.1) 33 (-1)) c0)), zVi (a0 17) k1 2 f1, zVi (a0 27) k2 28 f2, zVi (a0 25) k3 28 f3, zVi (a0 29) k4 14 o_1.2, zVi (a0 12) k5 2 f5, zVi (a0 14) k6 8 f6, zVi (a0 37) k7 14 f7, zVi (a0 39) k8 14 f8, zVi (a0 46) k9 14 f9, zVi (a0 19) k10 28 f10, zVi (a0 20) k11 28 f11, zVi (a0 21) k12 28 f12, zVl (a0 31) k13 14 f13, zVl (a0 22) k14 28 f14, zVl (a0 23) k15 28 f15, zVl (a0 32) k16 14 f16, zVl (a0 40) k17 14 f17, zVi (a0 15) k18 8 f18, zVi (a0 26) k19 28 f19, zVi (a0 43) k20 14 f20, zVi (a0 24) k21 2 f21, zVi (a0 16) k22 8 f22, zVi (a0 47) k23 14 f23, zVi (a0 48) k24 64 f24, zVi (a0 49) k25 64 f25]) hP hK hD hS hA ⟨hx, hb, hml, hown, hts⟩ (zf_X12_finest l dC dI h0 a0 (zI (zI b0 30 o_1.1) 33 (-1)) c0 k5 f5 k6 f6 o_10 hqo_10 H.size) (cwV 0 hts gX12_halve_X12_finest rfl rfl rfl zhd_X12_finest ⟨Nat.le_of_ble_eq_true rfl, Nat.le_of_ble_eq_true rfl⟩) [0, 5, 6] rfl (of_decide_eq_true rfl) [4, 5] rfl rfl rfl rfl hl.1 rfl (Nat.le_of_ble_eq_true rfl) dX12_halve_19 ⟨Nat.le_of_ble_eq_true rfl, Nat.le_of_ble_eq_true rfl⟩ [some 0, none, none, none, none, some 1, some 2] (of_decide_eq_true rfl) (of_decide_eq_true rfl) rfl rfl rfl (fun H locs hP hD hS => ?_)
    refine lv_istore_n (lv' := [(1, .int o_10), (0, .ref h0)]) hx hb dX12_halve_22 rfl hl (of_decide_eq_true rfl) rfl (fun ls hl => ?_)
    refine lv_aload_n hx hb dX12_halve_23 rfl (lv_at hl 1 rfl) ?_
    obtain ⟨o_14, hqo_14, hfn⟩ := zb_s hfn
    refine zcVv (ci := 12) (rest := []) (pc' := 27) (ws' := [(h0, .inr (12, zO a0 (zI (zI b0 30 o_1.1) 33 (-1)) c0)), zVi (a0 17) k1 2 f1, zVi (a0 27) k2 28 f2, zVi (a0 25) k3 28 f3, zVi (a0 29) k4 14 o_1.2, zVi (a0 12) k5 2 f5, zVi (a0 14) k6 8 f6, zVi (a0 37) k7 14 f7, zVi (a0 39) k8 14 o_14, zVi (a0 46) k9 14 f9, zVi (a0 19) k10 28 f10, zVi (a0 20) k11 28 f11, zVi (a0 21) k12 28 f12, zVl (a0 31) k13 14 f13, zVl (a0 22) k14 28 f14, zVl (a0 23) k15 28 f15, zVl (a0 32) k16 14 f16, zVl (a0 40) k17 14 f17, zVi (a0 15) k18 8 f18, zVi (a0 26) k19 28 f19, zVi (a0 43) k20 14 f20, zVi (a0 24) k21 2 f21, zVi (a0 16) k22 8 f22, zVi (a0 47) k23 14 f23, zVi (a0 48) k24 64 f24, zVi (a0 49) k25 64 f25]) hP hK hD hS hA ⟨hx, hb, hml, hown, hts⟩ (zf_X12_triesHand l dC dI h0 a0 (zI (zI b0 30 o_1.1) 33 (-1)) c0 k1 f1 k7 f7 k8 f8 o_14 hqo_14 H.size) (cwV 0 hts gX12_halve_X12_triesHand rfl rfl rfl zhd_X12_triesHand ⟨Nat.le_of_ble_eq_true rfl, Nat.le_of_ble_eq_true rfl⟩) [0, 1, 7, 8] rfl (of_decide_eq_true rfl) [0, 6, 7] rfl rfl rfl rfl hl.1 rfl (Nat.le_of_ble_eq_true rfl) dX12_halve_24 ⟨Nat.le_of_ble_eq_true rfl, Nat.le_of_ble_eq_true rfl⟩ [some 0, some 1, none, none, none, none, none, some 2, some 3] (of_decide_eq_true rfl) (of_decide_eq_true rfl) rfl rfl rfl (fun H locs hP hD hS => ?_)
    refine lv_iconst (v := 0) hx hb dX12_halve_27 zci_0 ?_
    refine lv_istore_n (lv' := [(2, .int 0), (1, .int o_10), (0, .ref h0)]) hx hb dX12_halve_28 rfl hl (of_decide_eq_true rfl) rfl (fun ls hl => ?_)
    obtain ⟨bd_18, ebd_18, hfn⟩ := zl_g hfn
    have lp_18 : ∀ (n : Nat) (s_18 : Int32 × (Nat → Int32) × (Nat → Int32)) (H : Heap) (locs : List Loc) (ls : Array Slot), zl bd_18 n s_18 = some o → va_P (dC, dI) vwCl [(h0, .inr (12, zO a0 (zI (zI b0 30 o_1.1) 33 (-1)) c0)), zVi (a0 17) k1 2 f1, zVi (a0 27) k2 28 f2, zVi (a0 25) k3 28 f3, zVi (a0 29) k4 14 o_1.2, zVi (a0 12) k5 2 f5, zVi (a0 14) k6 8 f6, zVi (a0 37) k7 14 f7, zVi (a0 39) k8 14 s_18.2.1, zVi (a0 46) k9 14 s_18.2.2, zVi (a0 19) k10 28 f10, zVi (a0 20) k11 28 f11, zVi (a0 21) k12 28 f12, zVl (a0 31) k13 14 f13, zVl (a0 22) k14 28 f14, zVl (a0 23) k15 28 f15, zVl (a0 32) k16 14 f16, zVl (a0 40) k17 14 f17, zVi (a0 15) k18 8 f18, zVi (a0 26) k19 28 f19, zVi (a0 43) k20 14 f20, zVi (a0 24) k21 2 f21, zVi (a0 16) k22 8 f22, zVi (a0 47) k23 14 f23, zVi (a0 48) k24 64 f24, zVi (a0 49) k25 64 f25] H → va_D A [(h0, .inr (12, zO a0 (zI (zI b0 30 o_1.1) 33 (-1)) c0)), zVi (a0 17) k1 2 f1, zVi (a0 27) k2 28 f2, zVi (a0 25) k3 28 f3, zVi (a0 29) k4 14 o_1.2, zVi (a0 12) k5 2 f5, zVi (a0 14) k6 8 f6, zVi (a0 37) k7 14 f7, zVi (a0 39) k8 14 s_18.2.1, zVi (a0 46) k9 14 s_18.2.2, zVi (a0 19) k10 28 f10, zVi (a0 20) k11 28 f11, zVi (a0 21) k12 28 f12, zVl (a0 31) k13 14 f13, zVl (a0 22) k14 28 f14, zVl (a0 23) k15 28 f15, zVl (a0 32) k16 14 f16, zVl (a0 40) k17 14 f17, zVi (a0 15) k18 8 f18, zVi (a0 26) k19 28 f19, zVi (a0 43) k20 14 f20, zVi (a0 24) k21 2 f21, zVi (a0 16) k22 8 f22, zVi (a0 47) k23 14 f23, zVi (a0 48) k24 64 f24, zVi (a0 49) k25 64 f25] → va_S A s.heap H locs → lv_has ls 3 [(2, .int s_18.1), (1, .int o_10), (0, .ref h0)] → W p l e (headSpec wsX12_halve ({ frames := 7, cells := 0, slots := 0, locals := 184 })).room s m ([.ref h0] : List Value).toArray below meth c H locs 0 0 Q (F0 m 29 ls []) := by
      intro n
      induction n with
      | zero => exact fun _ _ _ _ hfn => (zl_0 hfn).elim
      | succ n ih_18 =>
        intro s_18 H locs ls hfn hP hD hS hl
        have hfn := zl_s ebd_18 hfn
        refine lv_iload_n hx hb dX12_halve_29 rfl (lv_at hl 0 rfl) ?_
        refine lv_aload_n hx hb dX12_halve_30 rfl (lv_at hl 2 rfl) ?_
        refine va_get (D := (dC, dI)) (ci := 12) (v := .int o_1.1) (C := RX12) (T := TX12) (N := 67) hx hb hts zn_X12_halve_X12 hown hK hP 0 rfl rfl 30 (of_decide_eq_true rfl) (hts (.fieldLink RX12 103 "ShortEnoughModel" "freeMany" "I") zw_X12_halve_1258) (fun _ h9 => h9) rfl dX12_halve_31 ?_
        refine lv_icmp_ge (tgt := 61) hx hb dX12_halve_34 (of_decide_eq_true rfl) (fun c_19 => ?_) (fun c_19 => ?_)
        · have hfn := (if_pos c_19).symm.trans hfn
          refine lv_aload_n hx hb dX12_halve_61 rfl (lv_at hl 2 rfl) ?_
          refine lv_iconst (v := 1) hx hb dX12_halve_62 zci_1 ?_
          refine va_put (D := (dC, dI)) (ci := 12) (v := .int 1) (ty := .int) (C := RX12) (T := TX12) (N := 67) hx hb hts zn_X12_halve_X12 tyX12 tyX12_ok nmX12 hown hK hP hD hS 0 rfl rfl 45 (of_decide_eq_true rfl) (hts (.fieldLink RX12 150 "ShortEnoughModel" "tries" "I") zw_X12_halve_1261) (fun _ h9 => h9) rfl (tyX12_ok 45 (of_decide_eq_true rfl)) rfl rfl (Nat.le_of_ble_eq_true rfl) dX12_halve_63 (fun H locs hP hD hS => ?_)
          have hP : va_P (dC, dI) vwCl [(h0, .inr (12, zO a0 (zI (zI (zI b0 30 o_1.1) 33 (-1)) 45 1) c0)), zVi (a0 17) k1 2 f1, zVi (a0 27) k2 28 f2, zVi (a0 25) k3 28 f3, zVi (a0 29) k4 14 o_1.2, zVi (a0 12) k5 2 f5, zVi (a0 14) k6 8 f6, zVi (a0 37) k7 14 f7, zVi (a0 39) k8 14 s_18.2.1, zVi (a0 46) k9 14 s_18.2.2, zVi (a0 19) k10 28 f10, zVi (a0 20) k11 28 f11, zVi (a0 21) k12 28 f12, zVl (a0 31) k13 14 f13, zVl (a0 22) k14 28 f14, zVl (a0 23) k15 28 f15, zVl (a0 32) k16 14 f16, zVl (a0 40) k17 14 f17, zVi (a0 15) k18 8 f18, zVi (a0 26) k19 28 f19, zVi (a0 43) k20 14 f20, zVi (a0 24) k21 2 f21, zVi (a0 16) k22 8 f22, zVi (a0 47) k23 14 f23, zVi (a0 48) k24 64 f24, zVi (a0 49) k25 64 f25] H := hP
          have hD := zDW hD hP rfl
          refine lv_aload_n hx hb dX12_halve_66 rfl (lv_at hl 2 rfl) ?_
          obtain ⟨o_20, hqo_20, hfn⟩ := zb_s hfn
          refine zcVb (ci := 12) (rest := []) (pc' := 70) (ws' := [(h0, .inr (12, zO a0 (zI (zI (zI (zI (zI b0 30 o_1.1) 33 (-1)) 41 o_20.2.1) 42 o_20.2.2.1) 45 1) c0)), zVi (a0 17) k1 2 f1, zVi (a0 27) k2 28 f2, zVi (a0 25) k3 28 f3, zVi (a0 29) k4 14 o_1.2, zVi (a0 12) k5 2 f5, zVi (a0 14) k6 8 f6, zVi (a0 37) k7 14 f7, zVi (a0 39) k8 14 s_18.2.1, zVi (a0 46) k9 14 s_18.2.2, zVi (a0 19) k10 28 f10, zVi (a0 20) k11 28 f11, zVi (a0 21) k12 28 f12, zVl (a0 31) k13 14 o_20.2.2.2.1, zVl (a0 22) k14 28 f14, zVl (a0 23) k15 28 f15, zVl (a0 32) k16 14 o_20.2.2.2.2.1, zVl (a0 40) k17 14 o_20.2.2.2.2.2, zVi (a0 15) k18 8 f18, zVi (a0 26) k19 28 f19, zVi (a0 43) k20 14 f20, zVi (a0 24) k21 2 f21, zVi (a0 16) k22 8 f22, zVi (a0 47) k23 14 f23, zVi (a0 48) k24 64 f24, zVi (a0 49) k25 64 f25]) hP hK hD hS hA ⟨hx, hb, hml, hown, hts⟩ (zf_X12_passes l dC dI h0 a0 (zI (zI (zI b0 30 o_1.1) 33 (-1)) 45 1) c0 k1 f1 k10 f10 k11 f11 k12 f12 k13 f13 k14 f14 k15 f15 k16 f16 k8 s_18.2.1 k6 f6 k17 f17 k18 f18 k19 f19 o_20 hqo_20 H.size) (cwV 0 hts gX12_halve_X12_passes rfl rfl rfl zhd_X12_passes ⟨Nat.le_of_ble_eq_true rfl, Nat.le_of_ble_eq_true rfl⟩) [0, 1, 10, 11, 12, 13, 14, 15, 16, 8, 6, 17, 18, 19] rfl (of_decide_eq_true rfl) [0, 9, 10, 11, 12, 13, 14, 15, 7, 5, 16, 17, 18] rfl rfl rfl rfl hl.1 rfl (Nat.le_of_ble_eq_true rfl) dX12_halve_67 ⟨Nat.le_of_ble_eq_true rfl, Nat.le_of_ble_eq_true rfl⟩ [some 0, some 1, none, none, none, none, some 10, none, some 9, none, some 2, some 3, some 4, some 5, some 6, some 7, some 8, some 11, some 12, some 13] (of_decide_eq_true rfl) (of_decide_eq_true rfl) rfl rfl rfl (fun H locs hw_23n hP hD hS => ?_)
          refine lv_if_ne (tgt := 75) hx hb dX12_halve_70 (of_decide_eq_true rfl) (fun c_24 => ?_) (fun c_24 => ?_)
          · have hfn := (if_neg c_24).symm.trans hfn
            refine lv_aload_n hx hb dX12_halve_75 rfl (lv_at hl 2 rfl) ?_
            obtain ⟨o_25, hqo_25, hfn⟩ := zb_s hfn
            refine zcVv (ci := 12) (rest := []) (pc' := 79) (ws' := [(h0, .inr (12, zO a0 (zI (zI (zI (zI (zI (zI b0 30 o_1.1) 33 (-1)) 41 o_20.2.1) 42 o_20.2.2.1) 44 o_25.1) 45 1) c0)), zVi (a0 17) k1 2 f1, zVi (a0 27) k2 28 f2, zVi (a0 25) k3 28 f3, zVi (a0 29) k4 14 o_1.2, zVi (a0 12) k5 2 f5, zVi (a0 14) k6 8 f6, zVi (a0 37) k7 14 f7, zVi (a0 39) k8 14 s_18.2.1, zVi (a0 46) k9 14 s_18.2.2, zVi (a0 19) k10 28 f10, zVi (a0 20) k11 28 f11, zVi (a0 21) k12 28 f12, zVl (a0 31) k13 14 o_20.2.2.2.1, zVl (a0 22) k14 28 f14, zVl (a0 23) k15 28 f15, zVl (a0 32) k16 14 o_20.2.2.2.2.1, zVl (a0 40) k17 14 o_20.2.2.2.2.2, zVi (a0 15) k18 8 f18, zVi (a0 26) k19 28 f19, zVi (a0 43) k20 14 o_25.2, zVi (a0 24) k21 2 f21, zVi (a0 16) k22 8 f22, zVi (a0 47) k23 14 f23, zVi (a0 48) k24 64 f24, zVi (a0 49) k25 64 f25]) hP hK hD hS hA ⟨hx, hb, hml, hown, hts⟩ (zf_X12_keepsTried l dC dI h0 a0 (zI (zI (zI (zI (zI b0 30 o_1.1) 33 (-1)) 41 o_20.2.1) 42 o_20.2.2.1) 45 1) c0 k1 f1 k8 s_18.2.1 k20 f20 k21 f21 k11 f11 k12 f12 k22 f22 o_25 hqo_25 H.size) (cwV 0 hts gX12_halve_X12_keepsTried rfl rfl rfl zhd_X12_keepsTried ⟨Nat.le_of_ble_eq_true rfl, Nat.le_of_ble_eq_true rfl⟩) [0, 1, 8, 20, 21, 11, 12, 22] rfl (of_decide_eq_true rfl) [0, 7, 19, 20, 10, 11, 21] rfl rfl rfl rfl hl.1 rfl (Nat.le_of_ble_eq_true rfl) dX12_halve_76 ⟨Nat.le_of_ble_eq_true rfl, Nat.le_of_ble_eq_true rfl⟩ [some 0, some 1, none, none, none, none, none, none, some 2, none, none, some 5, some 6, none, none, none, none, none, none, none, some 3, some 4, some 7] (of_decide_eq_true rfl) (of_decide_eq_true rfl) rfl rfl rfl (fun H locs hP hD hS => ?_)
            refine lv_iconst (v := 0) hx hb dX12_halve_79 zci_0 ?_
            refine lv_istore_n (lv' := [(2, .int 0), (1, .int o_10), (0, .ref h0)]) hx hb dX12_halve_80 rfl hl (of_decide_eq_true rfl) rfl (fun ls hl => ?_)
            obtain ⟨bd_29, ebd_29, hfn⟩ := zl_g hfn
            have lp_29 : ∀ (n : Nat) (s_29 : Int32 × Int32 × Int32 × Int32 × Int32 × (Nat → Int64) × (Nat → Int64) × (Nat → Int32) × (Nat → Int64) × (Nat → Int32) × (Nat → Int32) × (Nat → Int32) × (Nat → Int32) × (Nat → Int32)) (H : Heap) (locs : List Loc) (ls : Array Slot), zl bd_29 n s_29 = some o → va_P (dC, dI) vwCl [(h0, .inr (12, zO a0 (zI (zI (zI (zI (zI (zI b0 30 o_1.1) 33 (-1)) 41 s_29.2.1) 42 s_29.2.2.1) 44 s_29.2.2.2.1) 45 s_29.2.2.2.2.1) c0)), zVi (a0 17) k1 2 f1, zVi (a0 27) k2 28 f2, zVi (a0 25) k3 28 f3, zVi (a0 29) k4 14 o_1.2, zVi (a0 12) k5 2 f5, zVi (a0 14) k6 8 f6, zVi (a0 37) k7 14 f7, zVi (a0 39) k8 14 s_29.2.2.2.2.2.2.2.1, zVi (a0 46) k9 14 s_29.2.2.2.2.2.2.2.2.2.2.1, zVi (a0 19) k10 28 f10, zVi (a0 20) k11 28 f11, zVi (a0 21) k12 28 f12, zVl (a0 31) k13 14 s_29.2.2.2.2.2.1, zVl (a0 22) k14 28 f14, zVl (a0 23) k15 28 f15, zVl (a0 32) k16 14 s_29.2.2.2.2.2.2.1, zVl (a0 40) k17 14 s_29.2.2.2.2.2.2.2.2.1, zVi (a0 15) k18 8 f18, zVi (a0 26) k19 28 f19, zVi (a0 43) k20 14 s_29.2.2.2.2.2.2.2.2.2.1, zVi (a0 24) k21 2 f21, zVi (a0 16) k22 8 f22, zVi (a0 47) k23 14 s_29.2.2.2.2.2.2.2.2.2.2.2.1, zVi (a0 48) k24 64 s_29.2.2.2.2.2.2.2.2.2.2.2.2.1, zVi (a0 49) k25 64 s_29.2.2.2.2.2.2.2.2.2.2.2.2.2] H → va_D A [(h0, .inr (12, zO a0 (zI (zI (zI (zI (zI (zI b0 30 o_1.1) 33 (-1)) 41 s_29.2.1) 42 s_29.2.2.1) 44 s_29.2.2.2.1) 45 s_29.2.2.2.2.1) c0)), zVi (a0 17) k1 2 f1, zVi (a0 27) k2 28 f2, zVi (a0 25) k3 28 f3, zVi (a0 29) k4 14 o_1.2, zVi (a0 12) k5 2 f5, zVi (a0 14) k6 8 f6, zVi (a0 37) k7 14 f7, zVi (a0 39) k8 14 s_29.2.2.2.2.2.2.2.1, zVi (a0 46) k9 14 s_29.2.2.2.2.2.2.2.2.2.2.1, zVi (a0 19) k10 28 f10, zVi (a0 20) k11 28 f11, zVi (a0 21) k12 28 f12, zVl (a0 31) k13 14 s_29.2.2.2.2.2.1, zVl (a0 22) k14 28 f14, zVl (a0 23) k15 28 f15, zVl (a0 32) k16 14 s_29.2.2.2.2.2.2.1, zVl (a0 40) k17 14 s_29.2.2.2.2.2.2.2.2.1, zVi (a0 15) k18 8 f18, zVi (a0 26) k19 28 f19, zVi (a0 43) k20 14 s_29.2.2.2.2.2.2.2.2.2.1, zVi (a0 24) k21 2 f21, zVi (a0 16) k22 8 f22, zVi (a0 47) k23 14 s_29.2.2.2.2.2.2.2.2.2.2.2.1, zVi (a0 48) k24 64 s_29.2.2.2.2.2.2.2.2.2.2.2.2.1, zVi (a0 49) k25 64 s_29.2.2.2.2.2.2.2.2.2.2.2.2.2] → va_S A s.heap H locs → lv_has ls 3 [(2, .int s_29.1), (1, .int o_10), (0, .ref h0)] → W p l e (headSpec wsX12_halve ({ frames := 7, cells := 0, slots := 0, locals := 184 })).room s m ([.ref h0] : List Value).toArray below meth c H locs 0 0 Q (F0 m 81 ls []) := by
              intro n
              induction n with
              | zero => exact fun _ _ _ _ hfn => (zl_0 hfn).elim
              | succ n ih_29 =>
                intro s_29 H locs ls hfn hP hD hS hl
                have hfn := zl_s ebd_29 hfn
                refine lv_iload_n hx hb dX12_halve_81 rfl (lv_at hl 0 rfl) ?_
                refine lv_aload_n hx hb dX12_halve_82 rfl (lv_at hl 2 rfl) ?_
                refine va_get (D := (dC, dI)) (ci := 12) (v := .ref (a0 12)) (C := RX12) (T := TX12) (N := 67) hx hb hts zn_X12_halve_X12 hown hK hP 0 rfl rfl 12 (of_decide_eq_true rfl) (hts (.fieldLink RX12 47 "ShortEnoughModel" "formats" "[I") zw_X12_halve_1262) (fun _ h9 => h9) rfl dX12_halve_83 ?_
                refine lv_iconst (v := 0) hx hb dX12_halve_86 zci_0 ?_
                refine va_iald hx hb hK hP 5 4 rfl rfl (zv_in (by decide +kernel)) dX12_halve_87 ?_
                refine lv_icmp_ge (tgt := 107) hx hb dX12_halve_88 (of_decide_eq_true rfl) (fun c_30 => ?_) (fun c_30 => ?_)
                · have hfn := (if_pos c_30).symm.trans hfn
                  refine lv_iconst (v := 1) hx hb dX12_halve_107 zci_1 ?_
                  have ho := Option.some.inj hfn
                  subst ho
                  exact zrz hx hb hr rfl hK hP hD hS hQ ⟨rfl, zB1⟩ hlocks dX12_halve_108
                have hfn := (if_neg c_30).symm.trans hfn
                refine lv_iload_n hx hb dX12_halve_91 rfl (lv_at hl 0 rfl) ?_
                refine lv_iload_n hx hb dX12_halve_92 rfl (lv_at hl 1 rfl) ?_
                refine lv_icmp_eq (tgt := 101) hx hb dX12_halve_93 (of_decide_eq_true rfl) (fun c_31 => ?_) (fun c_31 => ?_)
                · have hfn := (if_pos c_31).symm.trans hfn
                  refine lv_iinc (v := (s_29.1 + 1)) (lv' := [(2, .int (s_29.1 + 1)), (1, .int o_10), (0, .ref h0)]) hx hb dX12_halve_101 hl (k := 0) rfl rfl (of_decide_eq_true rfl) rfl (fun ls hl => ?_)
                  refine lv_goto (tgt := 81) hx hb dX12_halve_104 (of_decide_eq_true rfl) ?_
                  exact ih_29 ((s_29.1 + 1), s_29.2.1, s_29.2.2.1, s_29.2.2.2.1, s_29.2.2.2.2.1, s_29.2.2.2.2.2.1, s_29.2.2.2.2.2.2.1, s_29.2.2.2.2.2.2.2.1, s_29.2.2.2.2.2.2.2.2.1, s_29.2.2.2.2.2.2.2.2.2.1, s_29.2.2.2.2.2.2.2.2.2.2.1, s_29.2.2.2.2.2.2.2.2.2.2.2.1, s_29.2.2.2.2.2.2.2.2.2.2.2.2.1, s_29.2.2.2.2.2.2.2.2.2.2.2.2.2) H locs ls hfn hP hD hS (lv_sub hl [0, 1, 2] rfl)
                have hfn := (if_neg c_31).symm.trans hfn
                refine lv_aload_n hx hb dX12_halve_96 rfl (lv_at hl 2 rfl) ?_
                refine lv_iload_n hx hb dX12_halve_97 rfl (lv_at hl 0 rfl) ?_
                obtain ⟨o_32, hqo_32, hfn⟩ := zb_s hfn
                refine zcVv (ci := 12) (rest := []) (pc' := 101) (ws' := [(h0, .inr (12, zO a0 (zI (zI (zI (zI (zI (zI b0 30 o_1.1) 33 (-1)) 41 o_32.1) 42 o_32.2.1) 44 o_32.2.2.1) 45 o_32.2.2.2.1) c0)), zVi (a0 17) k1 2 f1, zVi (a0 27) k2 28 f2, zVi (a0 25) k3 28 f3, zVi (a0 29) k4 14 o_1.2, zVi (a0 12) k5 2 f5, zVi (a0 14) k6 8 f6, zVi (a0 37) k7 14 f7, zVi (a0 39) k8 14 o_32.2.2.2.2.2.2.2.2.2.1, zVi (a0 46) k9 14 o_32.2.2.2.2.1, zVi (a0 19) k10 28 f10, zVi (a0 20) k11 28 f11, zVi (a0 21) k12 28 f12, zVl (a0 31) k13 14 o_32.2.2.2.2.2.2.2.2.2.2.1, zVl (a0 22) k14 28 f14, zVl (a0 23) k15 28 f15, zVl (a0 32) k16 14 o_32.2.2.2.2.2.2.2.2.2.2.2.1, zVl (a0 40) k17 14 o_32.2.2.2.2.2.2.2.2.2.2.2.2, zVi (a0 15) k18 8 f18, zVi (a0 26) k19 28 f19, zVi (a0 43) k20 14 o_32.2.2.2.2.2.2.2.2.1, zVi (a0 24) k21 2 f21, zVi (a0 16) k22 8 f22, zVi (a0 47) k23 14 o_32.2.2.2.2.2.1, zVi (a0 48) k24 64 o_32.2.2.2.2.2.2.1, zVi (a0 49) k25 64 o_32.2.2.2.2.2.2.2.1]) hP hK hD hS hA ⟨hx, hb, hml, hown, hts⟩ (zf_X12_halvesBy l dC dI h0 s_29.1 a0 (zI (zI (zI (zI (zI (zI b0 30 o_1.1) 33 (-1)) 41 s_29.2.1) 42 s_29.2.2.1) 44 s_29.2.2.2.1) 45 s_29.2.2.2.2.1) c0 k9 s_29.2.2.2.2.2.2.2.2.2.2.1 k23 s_29.2.2.2.2.2.2.2.2.2.2.2.1 k24 s_29.2.2.2.2.2.2.2.2.2.2.2.2.1 k25 s_29.2.2.2.2.2.2.2.2.2.2.2.2.2 k1 f1 k20 s_29.2.2.2.2.2.2.2.2.2.1 k8 s_29.2.2.2.2.2.2.2.1 k4 o_1.2 k2 f2 k10 f10 k11 f11 k12 f12 k13 s_29.2.2.2.2.2.1 k14 f14 k15 f15 k16 s_29.2.2.2.2.2.2.1 k6 f6 k17 s_29.2.2.2.2.2.2.2.2.1 k18 f18 k19 f19 k21 f21 k22 f22 o_32 hqo_32 H.size) (cwV 1 hts gX12_halve_X12_halvesBy rfl rfl rfl zhd_X12_halvesBy ⟨Nat.le_of_ble_eq_true rfl, Nat.le_of_ble_eq_true rfl⟩) [0, 9, 23, 24, 25, 1, 20, 8, 4, 2, 10, 11, 12, 13, 14, 15, 16, 6, 17, 18, 19, 21, 22] rfl (of_decide_eq_true rfl) [8, 22, 23, 24, 0, 19, 7, 3, 1, 9, 10, 11, 12, 13, 14, 15, 5, 16, 17, 18, 20, 21] rfl rfl rfl rfl hl.1 rfl (Nat.le_of_ble_eq_true rfl) dX12_halve_98 ⟨Nat.le_of_ble_eq_true rfl, Nat.le_of_ble_eq_true rfl⟩ [some 0, some 5, some 9, none, some 8, none, some 17, none, some 7, some 1, some 10, some 11, some 12, some 13, some 14, some 15, some 16, some 18, some 19, some 20, some 6, some 21, some 22, some 2, some 3, some 4] (of_decide_eq_true rfl) (of_decide_eq_true rfl) rfl rfl rfl (fun H locs hP hD hS => ?_)
                refine lv_iinc (v := (s_29.1 + 1)) (lv' := [(2, .int (s_29.1 + 1)), (1, .int o_10), (0, .ref h0)]) hx hb dX12_halve_101 hl (k := 0) rfl rfl (of_decide_eq_true rfl) rfl (fun ls hl => ?_)
                refine lv_goto (tgt := 81) hx hb dX12_halve_104 (of_decide_eq_true rfl) ?_
                exact ih_29 ((s_29.1 + 1), o_32.1, o_32.2.1, o_32.2.2.1, o_32.2.2.2.1, o_32.2.2.2.2.2.2.2.2.2.2.1, o_32.2.2.2.2.2.2.2.2.2.2.2.1, o_32.2.2.2.2.2.2.2.2.2.1, o_32.2.2.2.2.2.2.2.2.2.2.2.2, o_32.2.2.2.2.2.2.2.2.1, o_32.2.2.2.2.1, o_32.2.2.2.2.2.1, o_32.2.2.2.2.2.2.1, o_32.2.2.2.2.2.2.2.1) H locs ls hfn hP hD hS (lv_sub hl [0, 1, 2] rfl)
            exact lp_29 _ (0, o_20.2.1, o_20.2.2.1, o_25.1, 1, o_20.2.2.2.1, o_20.2.2.2.2.1, s_18.2.1, o_20.2.2.2.2.2, o_25.2, s_18.2.2, f23, f24, f25) H locs ls hfn hP hD hS (lv_sub hl [0, 1, 2] rfl)
          have hfn := (if_pos c_24).symm.trans hfn
          refine lv_iconst (v := 0) hx hb dX12_halve_73 zci_0 ?_
          have ho := Option.some.inj hfn
          subst ho
          exact zrz hx hb hr rfl hK hP hD hS hQ ⟨rfl, zB0⟩ hlocks dX12_halve_74
        have hfn := (if_neg c_19).symm.trans hfn
        refine lv_aload_n hx hb dX12_halve_37 rfl (lv_at hl 2 rfl) ?_
        refine lv_aload_n hx hb dX12_halve_38 rfl (lv_at hl 2 rfl) ?_
        refine va_get (D := (dC, dI)) (ci := 12) (v := .ref (a0 29)) (C := RX12) (T := TX12) (N := 67) hx hb hts zn_X12_halve_X12 hown hK hP 0 rfl rfl 29 (of_decide_eq_true rfl) (hts (.fieldLink RX12 100 "ShortEnoughModel" "free" "[I") zw_X12_halve_1259) (fun _ h9 => h9) rfl dX12_halve_39 ?_
        refine lv_iload_n hx hb dX12_halve_42 rfl (lv_at hl 0 rfl) ?_
        obtain ⟨h_36, hfn⟩ := zg_s hfn
        refine va_iald hx hb hK hP 4 3 rfl rfl h_36 dX12_halve_43 ?_
        refine lv_iload_n hx hb dX12_halve_44 rfl (lv_at hl 1 rfl) ?_
        obtain ⟨o_37, hqo_37, hfn⟩ := zb_s hfn
        refine zcVv (ci := 12) (rest := []) (pc' := 48) (ws' := [(h0, .inr (12, zO a0 (zI (zI b0 30 o_1.1) 33 (-1)) c0)), zVi (a0 17) k1 2 f1, zVi (a0 27) k2 28 f2, zVi (a0 25) k3 28 f3, zVi (a0 29) k4 14 o_1.2, zVi (a0 12) k5 2 f5, zVi (a0 14) k6 8 f6, zVi (a0 37) k7 14 f7, zVi (a0 39) k8 14 o_37, zVi (a0 46) k9 14 s_18.2.2, zVi (a0 19) k10 28 f10, zVi (a0 20) k11 28 f11, zVi (a0 21) k12 28 f12, zVl (a0 31) k13 14 f13, zVl (a0 22) k14 28 f14, zVl (a0 23) k15 28 f15, zVl (a0 32) k16 14 f16, zVl (a0 40) k17 14 f17, zVi (a0 15) k18 8 f18, zVi (a0 26) k19 28 f19, zVi (a0 43) k20 14 f20, zVi (a0 24) k21 2 f21, zVi (a0 16) k22 8 f22, zVi (a0 47) k23 14 f23, zVi (a0 48) k24 64 f24, zVi (a0 49) k25 64 f25]) hP hK hD hS hA ⟨hx, hb, hml, hown, hts⟩ (zf_X12_triesGroup l dC dI h0 (o_1.2 s_18.1.toNatClampNeg) o_10 a0 (zI (zI b0 30 o_1.1) 33 (-1)) c0 k1 f1 k2 f2 k8 s_18.2.1 o_37 hqo_37 H.size) (cwV 2 hts gX12_halve_X12_triesGroup rfl rfl rfl zhd_X12_triesGroup ⟨Nat.le_of_ble_eq_true rfl, Nat.le_of_ble_eq_true rfl⟩) [0, 1, 2, 8] rfl (of_decide_eq_true rfl) [0, 1, 7] rfl rfl rfl rfl hl.1 rfl (Nat.le_of_ble_eq_true rfl) dX12_halve_45 ⟨Nat.le_of_ble_eq_true rfl, Nat.le_of_ble_eq_true rfl⟩ [some 0, some 1, some 2, none, none, none, none, none, some 3] (of_decide_eq_true rfl) (of_decide_eq_true rfl) rfl rfl rfl (fun H locs hP hD hS => ?_)
        refine lv_aload_n hx hb dX12_halve_48 rfl (lv_at hl 2 rfl) ?_
        refine va_get (D := (dC, dI)) (ci := 12) (v := .ref (a0 46)) (C := RX12) (T := TX12) (N := 67) hx hb hts zn_X12_halve_X12 hown hK hP 0 rfl rfl 46 (of_decide_eq_true rfl) (hts (.fieldLink RX12 153 "ShortEnoughModel" "hasChanged" "[Z") zw_X12_halve_1260) (fun _ h9 => h9) rfl dX12_halve_49 ?_
        refine lv_iload_n hx hb dX12_halve_52 rfl (lv_at hl 0 rfl) ?_
        refine lv_iconst (v := 0) hx hb dX12_halve_53 zci_0 ?_
        refine va_zast hx hb hK hP hD hS 9 8 rfl rfl h_36 dX12_halve_54 (fun H locs hP hD hS => ?_)
        have hP : va_P (dC, dI) vwCl [(h0, .inr (12, zO a0 (zI (zI b0 30 o_1.1) 33 (-1)) c0)), zVi (a0 17) k1 2 f1, zVi (a0 27) k2 28 f2, zVi (a0 25) k3 28 f3, zVi (a0 29) k4 14 o_1.2, zVi (a0 12) k5 2 f5, zVi (a0 14) k6 8 f6, zVi (a0 37) k7 14 f7, zVi (a0 39) k8 14 o_37, zVi (a0 46) k9 14 (upd s_18.2.2 s_18.1.toNatClampNeg (vp_nar .boolean 0)), zVi (a0 19) k10 28 f10, zVi (a0 20) k11 28 f11, zVi (a0 21) k12 28 f12, zVl (a0 31) k13 14 f13, zVl (a0 22) k14 28 f14, zVl (a0 23) k15 28 f15, zVl (a0 32) k16 14 f16, zVl (a0 40) k17 14 f17, zVi (a0 15) k18 8 f18, zVi (a0 26) k19 28 f19, zVi (a0 43) k20 14 f20, zVi (a0 24) k21 2 f21, zVi (a0 16) k22 8 f22, zVi (a0 47) k23 14 f23, zVi (a0 48) k24 64 f24, zVi (a0 49) k25 64 f25] H := hP
        have hD := zDW hD hP rfl
        refine lv_iinc (v := (s_18.1 + 1)) (lv' := [(2, .int (s_18.1 + 1)), (1, .int o_10), (0, .ref h0)]) hx hb dX12_halve_55 hl (k := 0) rfl rfl (of_decide_eq_true rfl) rfl (fun ls hl => ?_)
        refine lv_goto (tgt := 29) hx hb dX12_halve_58 (of_decide_eq_true rfl) ?_
        exact ih_18 ((s_18.1 + 1), o_37, (upd s_18.2.2 s_18.1.toNatClampNeg (vp_nar .boolean 0))) H locs ls hfn hP hD hS (lv_sub hl [0, 1, 2] rfl)
    exact lp_18 _ (0, o_14, f9) H locs ls hfn hP hD hS (lv_sub hl [0, 1, 2] rfl)
  have hfn := (if_pos c_9).symm.trans hfn
  refine lv_iconst (v := 0) hx hb dX12_halve_16 zci_0 ?_
  have ho := Option.some.inj hfn
  subst ho
  exact zrz hx hb hr rfl hK hP hD hS hQ ⟨rfl, zB0⟩ hlocks dX12_halve_17
theorem zn_X12_halves_X12 : ∀ w ∈ wsX120, w ∈ wsX12_halves := fun _ h => List.mem_cons_of_mem _ (List.mem_append_right _ h)
theorem zw_X12_halves_1264 : Cond.fieldLink RX12 144 "ShortEnoughModel" "soFar" "[I" ∈ wsX12_halves := List.mem_of_getElem? (i := 3) (by decide +kernel)
theorem zw_X12_halves_1265 : Cond.fieldLink RX12 150 "ShortEnoughModel" "tries" "I" ∈ wsX12_halves := List.mem_of_getElem? (i := 2) (by decide +kernel)
theorem zw_X12_halves_1266 : Cond.fieldLink RX12 147 "ShortEnoughModel" "soFarCost" "I" ∈ wsX12_halves := List.mem_of_getElem? (i := 1) (by decide +kernel)
set_option maxHeartbeats 4000000 in
set_option maxRecDepth 100000 in
theorem zf_X12_halves (l : Launch) (dC : Nat → ClassId) (dI : Nat → Nat → Nat) (h0 : Nat) (p1 : Int32) (a0 : Nat → Nat) (b0 : Nat → Int32) (c0 : Nat → Int64) (k1 : Nat) (f1 : Nat → Int32) (k2 : Nat) (f2 : Nat → Int32) (k3 : Nat) (f3 : Nat → Int32) (k4 : Nat) (f4 : Nat → Int32) (k5 : Nat) (f5 : Nat → Int32) (k6 : Nat) (f6 : Nat → Int32) (k7 : Nat) (f7 : Nat → Int32) (k8 : Nat) (f8 : Nat → Int32) (k9 : Nat) (f9 : Nat → Int32) (k10 : Nat) (f10 : Nat → Int32) (k11 : Nat) (f11 : Nat → Int32) (k12 : Nat) (f12 : Nat → Int32) (k13 : Nat) (f13 : Nat → Int64) (k14 : Nat) (f14 : Nat → Int64) (k15 : Nat) (f15 : Nat → Int64) (k16 : Nat) (f16 : Nat → Int64) (k17 : Nat) (f17 : Nat → Int64) (k18 : Nat) (f18 : Nat → Int32) (k19 : Nat) (f19 : Nat → Int32) (k20 : Nat) (f20 : Nat → Int32) (k21 : Nat) (f21 : Nat → Int32) (k22 : Nat) (f22 : Nat → Int32) (k23 : Nat) (f23 : Nat → Int32) (k24 : Nat) (f24 : Nat → Int32) (k25 : Nat) (f25 : Nat → Int32) (o : Int32 × Int32 × Int32 × Int32 × Int32 × Int32 × Int32 × (Nat → Int32) × (Nat → Int32) × (Nat → Int32) × (Nat → Int64) × (Nat → Int64) × (Nat → Int64) × (Nat → Int32) × (Nat → Int32) × (Nat → Int32) × (Nat → Int32)) (hfn : fn_X12_halves p1 (b0 30) (b0 33) (c0 34) (b0 38) (b0 41) (b0 42) (b0 44) (b0 45) f1 f2 f3 f4 f5 f6 f7 f8 f9 f10 f11 f12 f13 f14 f15 f16 f17 f18 f19 f20 f21 f22 f23 f24 f25 = some o) (sz : Nat) : zMi l yX12_halves wsX12_halves ({ frames := 8, cells := 0, slots := 0, locals := 206 }) (dC, dI) vwCl [.ref h0, .int p1] [(h0, .inr (12, zO a0 b0 c0)), zVi (a0 17) k1 2 f1, zVi (a0 27) k2 28 f2, zVi (a0 25) k3 28 f3, zVi (a0 29) k4 14 f4, zVi (a0 12) k5 2 f5, zVi (a0 14) k6 8 f6, zVi (a0 37) k7 14 f7, zVi (a0 39) k8 14 f8, zVi (a0 46) k9 14 f9, zVi (a0 19) k10 28 f10, zVi (a0 20) k11 28 f11, zVi (a0 21) k12 28 f12, zVl (a0 31) k13 14 f13, zVl (a0 22) k14 28 f14, zVl (a0 23) k15 28 f15, zVl (a0 32) k16 14 f16, zVl (a0 40) k17 14 f17, zVi (a0 15) k18 8 f18, zVi (a0 26) k19 28 f19, zVi (a0 43) k20 14 f20, zVi (a0 24) k21 2 f21, zVi (a0 16) k22 8 f22, zVi (a0 47) k23 14 f23, zVi (a0 48) k24 64 f24, zVi (a0 49) k25 64 f25] [(k1, .int), (k2, .int), (k3, .int), (k4, .int), (k5, .int), (k6, .int), (k7, .int), (k8, .int), (k9, .boolean), (k10, .int), (k11, .int), (k12, .int), (k13, .long), (k14, .long), (k15, .long), (k16, .long), (k17, .long), (k18, .int), (k19, .int), (k20, .int), (k21, .int), (k22, .int), (k23, .int), (k24, .int), (k25, .int)] (fun r _ => r = o.1) [(h0, .inr (12, zO a0 (zI (zI (zI (zI (zI (zI b0 30 o.2.1) 33 o.2.2.1) 41 o.2.2.2.1) 42 o.2.2.2.2.1) 44 o.2.2.2.2.2.1) 45 o.2.2.2.2.2.2.1) c0)), zVi (a0 17) k1 2 f1, zVi (a0 27) k2 28 f2, zVi (a0 25) k3 28 f3, zVi (a0 29) k4 14 o.2.2.2.2.2.2.2.1, zVi (a0 12) k5 2 f5, zVi (a0 14) k6 8 f6, zVi (a0 37) k7 14 f7, zVi (a0 39) k8 14 o.2.2.2.2.2.2.2.2.1, zVi (a0 46) k9 14 o.2.2.2.2.2.2.2.2.2.1, zVi (a0 19) k10 28 f10, zVi (a0 20) k11 28 f11, zVi (a0 21) k12 28 f12, zVl (a0 31) k13 14 o.2.2.2.2.2.2.2.2.2.2.1, zVl (a0 22) k14 28 f14, zVl (a0 23) k15 28 f15, zVl (a0 32) k16 14 o.2.2.2.2.2.2.2.2.2.2.2.1, zVl (a0 40) k17 14 o.2.2.2.2.2.2.2.2.2.2.2.2.1, zVi (a0 15) k18 8 f18, zVi (a0 26) k19 28 f19, zVi (a0 43) k20 14 o.2.2.2.2.2.2.2.2.2.2.2.2.2.1, zVi (a0 24) k21 2 f21, zVi (a0 16) k22 8 f22, zVi (a0 47) k23 14 o.2.2.2.2.2.2.2.2.2.2.2.2.2.2.1, zVi (a0 48) k24 64 o.2.2.2.2.2.2.2.2.2.2.2.2.2.2.2.1, zVi (a0 49) k25 64 o.2.2.2.2.2.2.2.2.2.2.2.2.2.2.2.2] [(k1, .int), (k2, .int), (k3, .int), (k4, .int), (k5, .int), (k6, .int), (k7, .int), (k8, .int), (k9, .boolean), (k10, .int), (k11, .int), (k12, .int), (k13, .long), (k14, .long), (k15, .long), (k16, .long), (k17, .long), (k18, .int), (k19, .int), (k20, .int), (k21, .int), (k22, .int), (k23, .int), (k24, .int), (k25, .int)] sz := by
  refine zgoi (cc := cX12_halves) (maxL := 2) (ret := (some .int)) (C0 := RX12) (lv0 := [(0, .ref h0), (1, .int p1)]) zpl_X12 rfl rfl rfl (Nat.le_of_ble_eq_true rfl) ?_
  intro p e s m below meth c A ls Q hx hb hr hts hown hlocks hml hP hK hD hA hS hl hQ
  unfold fn_X12_halves at hfn
  refine lv_iload_n hx hb dX12_halves_0 rfl (lv_at hl 1 rfl) ?_
  refine lv_iconst (v := (-1)) hx hb dX12_halves_1 zci_m1 ?_
  obtain ⟨j_1, ej_1, hfn⟩ := zj_g hfn
  have jp_1 : ∀ (s_1 : Unit) (H : Heap) (locs : List Loc) (ls : Array Slot), j_1 s_1 = some o → va_P (dC, dI) vwCl [(h0, .inr (12, zO a0 b0 c0)), zVi (a0 17) k1 2 f1, zVi (a0 27) k2 28 f2, zVi (a0 25) k3 28 f3, zVi (a0 29) k4 14 f4, zVi (a0 12) k5 2 f5, zVi (a0 14) k6 8 f6, zVi (a0 37) k7 14 f7, zVi (a0 39) k8 14 f8, zVi (a0 46) k9 14 f9, zVi (a0 19) k10 28 f10, zVi (a0 20) k11 28 f11, zVi (a0 21) k12 28 f12, zVl (a0 31) k13 14 f13, zVl (a0 22) k14 28 f14, zVl (a0 23) k15 28 f15, zVl (a0 32) k16 14 f16, zVl (a0 40) k17 14 f17, zVi (a0 15) k18 8 f18, zVi (a0 26) k19 28 f19, zVi (a0 43) k20 14 f20, zVi (a0 24) k21 2 f21, zVi (a0 16) k22 8 f22, zVi (a0 47) k23 14 f23, zVi (a0 48) k24 64 f24, zVi (a0 49) k25 64 f25] H → va_D A [(h0, .inr (12, zO a0 b0 c0)), zVi (a0 17) k1 2 f1, zVi (a0 27) k2 28 f2, zVi (a0 25) k3 28 f3, zVi (a0 29) k4 14 f4, zVi (a0 12) k5 2 f5, zVi (a0 14) k6 8 f6, zVi (a0 37) k7 14 f7, zVi (a0 39) k8 14 f8, zVi (a0 46) k9 14 f9, zVi (a0 19) k10 28 f10, zVi (a0 20) k11 28 f11, zVi (a0 21) k12 28 f12, zVl (a0 31) k13 14 f13, zVl (a0 22) k14 28 f14, zVl (a0 23) k15 28 f15, zVl (a0 32) k16 14 f16, zVl (a0 40) k17 14 f17, zVi (a0 15) k18 8 f18, zVi (a0 26) k19 28 f19, zVi (a0 43) k20 14 f20, zVi (a0 24) k21 2 f21, zVi (a0 16) k22 8 f22, zVi (a0 47) k23 14 f23, zVi (a0 48) k24 64 f24, zVi (a0 49) k25 64 f25] → va_S A s.heap H locs → lv_has ls 2 [(0, .ref h0), (1, .int p1)] → W p l e (headSpec wsX12_halves ({ frames := 8, cells := 0, slots := 0, locals := 206 })).room s m ([.ref h0, .int p1] : List Value).toArray below meth c H locs 0 0 Q (F0 m 19 ls []) := by
    intro s_1 H locs ls hfn hP hD hS hl
    have hfn := zj_s ej_1 hfn
    refine lv_aload_n hx hb dX12_halves_19 rfl (lv_at hl 0 rfl) ?_
    obtain ⟨o_2, hqo_2, hfn⟩ := zb_s hfn
    refine zcVb (ci := 12) (rest := []) (pc' := 23) (ws' := [(h0, .inr (12, zO a0 (zI (zI (zI (zI (zI (zI b0 30 o_2.2.1) 33 o_2.2.2.1) 41 o_2.2.2.2.1) 42 o_2.2.2.2.2.1) 44 o_2.2.2.2.2.2.1) 45 o_2.2.2.2.2.2.2.1) c0)), zVi (a0 17) k1 2 f1, zVi (a0 27) k2 28 f2, zVi (a0 25) k3 28 f3, zVi (a0 29) k4 14 o_2.2.2.2.2.2.2.2.1, zVi (a0 12) k5 2 f5, zVi (a0 14) k6 8 f6, zVi (a0 37) k7 14 f7, zVi (a0 39) k8 14 o_2.2.2.2.2.2.2.2.2.1, zVi (a0 46) k9 14 o_2.2.2.2.2.2.2.2.2.2.1, zVi (a0 19) k10 28 f10, zVi (a0 20) k11 28 f11, zVi (a0 21) k12 28 f12, zVl (a0 31) k13 14 o_2.2.2.2.2.2.2.2.2.2.2.1, zVl (a0 22) k14 28 f14, zVl (a0 23) k15 28 f15, zVl (a0 32) k16 14 o_2.2.2.2.2.2.2.2.2.2.2.2.1, zVl (a0 40) k17 14 o_2.2.2.2.2.2.2.2.2.2.2.2.2.1, zVi (a0 15) k18 8 f18, zVi (a0 26) k19 28 f19, zVi (a0 43) k20 14 o_2.2.2.2.2.2.2.2.2.2.2.2.2.2.1, zVi (a0 24) k21 2 f21, zVi (a0 16) k22 8 f22, zVi (a0 47) k23 14 o_2.2.2.2.2.2.2.2.2.2.2.2.2.2.2.1, zVi (a0 48) k24 64 o_2.2.2.2.2.2.2.2.2.2.2.2.2.2.2.2.1, zVi (a0 49) k25 64 o_2.2.2.2.2.2.2.2.2.2.2.2.2.2.2.2.2]) hP hK hD hS hA ⟨hx, hb, hml, hown, hts⟩ (zf_X12_halve l dC dI h0 a0 b0 c0 k1 f1 k2 f2 k3 f3 k4 f4 k5 f5 k6 f6 k7 f7 k8 f8 k9 f9 k10 f10 k11 f11 k12 f12 k13 f13 k14 f14 k15 f15 k16 f16 k17 f17 k18 f18 k19 f19 k20 f20 k21 f21 k22 f22 k23 f23 k24 f24 k25 f25 o_2 hqo_2 H.size) (cwV 0 hts gX12_halves_X12_halve rfl rfl rfl zhd_X12_halve ⟨Nat.le_of_ble_eq_true rfl, Nat.le_of_ble_eq_true rfl⟩) [0, 1, 2, 3, 4, 5, 6, 7, 8, 9, 10, 11, 12, 13, 14, 15, 16, 17, 18, 19, 20, 21, 22, 23, 24, 25] rfl (of_decide_eq_true rfl) [0, 1, 2, 3, 4, 5, 6, 7, 8, 9, 10, 11, 12, 13, 14, 15, 16, 17, 18, 19, 20, 21, 22, 23, 24] rfl rfl rfl rfl hl.1 rfl (Nat.le_of_ble_eq_true rfl) dX12_halves_20 ⟨Nat.le_of_ble_eq_true rfl, Nat.le_of_ble_eq_true rfl⟩ [some 0, some 1, some 2, some 3, some 4, some 5, some 6, some 7, some 8, some 9, some 10, some 11, some 12, some 13, some 14, some 15, some 16, some 17, some 18, some 19, some 20, some 21, some 22, some 23, some 24, some 25] (of_decide_eq_true rfl) (of_decide_eq_true rfl) rfl rfl rfl (fun H locs hw_5n hP hD hS => ?_)
    refine lv_if_ne (tgt := 28) hx hb dX12_halves_23 (of_decide_eq_true rfl) (fun c_6 => ?_) (fun c_6 => ?_)
    · have hfn := (if_neg c_6).symm.trans hfn
      refine lv_iload_n hx hb dX12_halves_28 rfl (lv_at hl 1 rfl) ?_
      refine lv_iconst (v := (-1)) hx hb dX12_halves_29 zci_m1 ?_
      refine lv_icmp_ne (tgt := 40) hx hb dX12_halves_30 (of_decide_eq_true rfl) (fun c_7 => ?_) (fun c_7 => ?_)
      · have hfn := (if_neg c_7).symm.trans hfn
        refine lv_iload_n hx hb dX12_halves_40 rfl (lv_at hl 1 rfl) ?_
        refine lv_bipush (v := (-2)) hx hb dX12_halves_41 zcb_m2 ?_
        refine lv_icmp_ne (tgt := 53) hx hb dX12_halves_43 (of_decide_eq_true rfl) (fun c_8 => ?_) (fun c_8 => ?_)
        · have hfn := (if_neg c_8).symm.trans hfn
          refine lv_aload_n hx hb dX12_halves_53 rfl (lv_at hl 0 rfl) ?_
          refine va_get (D := (dC, dI)) (ci := 12) (v := .ref (a0 43)) (C := RX12) (T := TX12) (N := 67) hx hb hts zn_X12_halves_X12 hown hK hP 0 rfl rfl 43 (of_decide_eq_true rfl) (hts (.fieldLink RX12 144 "ShortEnoughModel" "soFar" "[I") zw_X12_halves_1264) (fun _ h9 => h9) rfl dX12_halves_54 ?_
          refine lv_iload_n hx hb dX12_halves_57 rfl (lv_at hl 1 rfl) ?_
          obtain ⟨h_9, hfn⟩ := zg_s hfn
          refine va_iald hx hb hK hP 20 19 rfl rfl h_9 dX12_halves_58 ?_
          have ho := Option.some.inj hfn
          subst ho
          exact zri hx hb hr hK hP hD hS hQ rfl hlocks dX12_halves_59
        have hfn := (if_pos c_8).symm.trans hfn
        refine lv_aload_n hx hb dX12_halves_46 rfl (lv_at hl 0 rfl) ?_
        refine va_get (D := (dC, dI)) (ci := 12) (v := .int o_2.2.2.2.2.2.2.1) (C := RX12) (T := TX12) (N := 67) hx hb hts zn_X12_halves_X12 hown hK hP 0 rfl rfl 45 (of_decide_eq_true rfl) (hts (.fieldLink RX12 150 "ShortEnoughModel" "tries" "I") zw_X12_halves_1265) (fun _ h9 => h9) rfl dX12_halves_47 ?_
        refine lv_goto (tgt := 59) hx hb dX12_halves_50 (of_decide_eq_true rfl) ?_
        have ho := Option.some.inj hfn
        subst ho
        exact zri hx hb hr hK hP hD hS hQ rfl hlocks dX12_halves_59
      have hfn := (if_pos c_7).symm.trans hfn
      refine lv_aload_n hx hb dX12_halves_33 rfl (lv_at hl 0 rfl) ?_
      refine va_get (D := (dC, dI)) (ci := 12) (v := .int o_2.2.2.2.2.2.1) (C := RX12) (T := TX12) (N := 67) hx hb hts zn_X12_halves_X12 hown hK hP 0 rfl rfl 44 (of_decide_eq_true rfl) (hts (.fieldLink RX12 147 "ShortEnoughModel" "soFarCost" "I") zw_X12_halves_1266) (fun _ h9 => h9) rfl dX12_halves_34 ?_
      refine lv_goto (tgt := 59) hx hb dX12_halves_37 (of_decide_eq_true rfl) ?_
      have ho := Option.some.inj hfn
      subst ho
      exact zri hx hb hr hK hP hD hS hQ rfl hlocks dX12_halves_59
    have hfn := (if_pos c_6).symm.trans hfn
    refine lv_iconst (v := (-1)) hx hb dX12_halves_26 zci_m1 ?_
    have ho := Option.some.inj hfn
    subst ho
    exact zri hx hb hr hK hP hD hS hQ rfl hlocks dX12_halves_27
  refine lv_icmp_eq (tgt := 19) hx hb dX12_halves_2 (of_decide_eq_true rfl) (fun c_10 => ?_) (fun c_10 => ?_)
  · have hfn := (if_pos c_10).symm.trans hfn
    exact jp_1 () s.heap [] ls hfn hP hD hS (lv_sub hl [0, 1] rfl)
  have hfn := (if_neg c_10).symm.trans hfn
  refine lv_iload_n hx hb dX12_halves_5 rfl (lv_at hl 1 rfl) ?_
  refine lv_bipush (v := (-2)) hx hb dX12_halves_6 zcb_m2 ?_
  refine lv_icmp_eq (tgt := 19) hx hb dX12_halves_8 (of_decide_eq_true rfl) (fun c_11 => ?_) (fun c_11 => ?_)
  · have hfn := (if_pos c_11).symm.trans hfn
    exact jp_1 () s.heap [] ls hfn hP hD hS (lv_sub hl [0, 1] rfl)
  have hfn := (if_neg c_11).symm.trans hfn
  refine lv_aload_n hx hb dX12_halves_11 rfl (lv_at hl 0 rfl) ?_
  refine lv_iload_n hx hb dX12_halves_12 rfl (lv_at hl 1 rfl) ?_
  obtain ⟨o_12, hqo_12, hfn⟩ := zb_s hfn
  refine zcVb (ci := 12) (rest := []) (pc' := 16) (ws' := [(h0, .inr (12, zO a0 b0 c0)), zVi (a0 17) k1 2 f1, zVi (a0 27) k2 28 f2, zVi (a0 25) k3 28 f3, zVi (a0 29) k4 14 f4, zVi (a0 12) k5 2 f5, zVi (a0 14) k6 8 f6, zVi (a0 37) k7 14 f7, zVi (a0 39) k8 14 f8, zVi (a0 46) k9 14 f9, zVi (a0 19) k10 28 f10, zVi (a0 20) k11 28 f11, zVi (a0 21) k12 28 f12, zVl (a0 31) k13 14 f13, zVl (a0 22) k14 28 f14, zVl (a0 23) k15 28 f15, zVl (a0 32) k16 14 f16, zVl (a0 40) k17 14 f17, zVi (a0 15) k18 8 f18, zVi (a0 26) k19 28 f19, zVi (a0 43) k20 14 f20, zVi (a0 24) k21 2 f21, zVi (a0 16) k22 8 f22, zVi (a0 47) k23 14 f23, zVi (a0 48) k24 64 f24, zVi (a0 49) k25 64 f25]) hP hK hD hS hA ⟨hx, hb, hml, hown, hts⟩ (zf_X12_isNumber l dC dI h0 p1 a0 b0 c0 k1 f1 o_12 hqo_12 s.heap.size) (cwV 1 hts gX12_halves_X12_isNumber rfl rfl rfl zhd_X12_isNumber ⟨Nat.le_of_ble_eq_true rfl, Nat.le_of_ble_eq_true rfl⟩) [0, 1] rfl (of_decide_eq_true rfl) [0] rfl rfl rfl rfl hl.1 rfl (Nat.le_of_ble_eq_true rfl) dX12_halves_13 ⟨Nat.le_of_ble_eq_true rfl, Nat.le_of_ble_eq_true rfl⟩ [some 0, some 1] (of_decide_eq_true rfl) (of_decide_eq_true rfl) rfl rfl rfl (fun H locs hw_15n hP hD hS => ?_)
  refine lv_if_eq (tgt := 26) hx hb dX12_halves_16 (of_decide_eq_true rfl) (fun c_16 => ?_) (fun c_16 => ?_)
  · have hfn := (if_pos c_16).symm.trans hfn
    refine lv_iconst (v := (-1)) hx hb dX12_halves_26 zci_m1 ?_
    have ho := Option.some.inj hfn
    subst ho
    exact zri hx hb hr hK hP hD hS hQ rfl hlocks dX12_halves_27
  have hfn := (if_neg c_16).symm.trans hfn
  exact jp_1 () H locs ls hfn hP hD hS (lv_sub hl [0, 1] rfl)
theorem zn_X12_laysSingle_X12 : ∀ w ∈ wsX120, w ∈ wsX12_laysSingle := fun _ h => List.mem_cons_of_mem _ (List.mem_append_right _ h)
theorem zw_X12_laysSingle_1268 : Cond.fieldLink RX12 112 "ShortEnoughModel" "wideNumber" "I" ∈ wsX12_laysSingle := List.mem_of_getElem? (i := 1) (by decide +kernel)
theorem zw_X12_laysSingle_1269 : Cond.fieldLink RX12 165 "ShortEnoughModel" "singlePass" "I" ∈ wsX12_laysSingle := List.mem_of_getElem? (i := 2) (by decide +kernel)
theorem zw_X12_laysSingle_1270 : Cond.fieldLink RX12 168 "ShortEnoughModel" "singleLess" "I" ∈ wsX12_laysSingle := List.mem_of_getElem? (i := 3) (by decide +kernel)
theorem zw_X12_laysSingle_1271 : Cond.fieldLink RX12 171 "ShortEnoughModel" "singleGroup" "I" ∈ wsX12_laysSingle := List.mem_of_getElem? (i := 4) (by decide +kernel)
theorem zw_X12_laysSingle_1272 : Cond.fieldLink RX12 174 "ShortEnoughModel" "singleFormat" "I" ∈ wsX12_laysSingle := List.mem_of_getElem? (i := 5) (by decide +kernel)
theorem zw_X12_laysSingle_1273 : Cond.fieldLink RX12 103 "ShortEnoughModel" "freeMany" "I" ∈ wsX12_laysSingle := List.mem_of_getElem? (i := 6) (by decide +kernel)
theorem zw_X12_laysSingle_1274 : Cond.fieldLink RX12 47 "ShortEnoughModel" "formats" "[I" ∈ wsX12_laysSingle := List.mem_of_getElem? (i := 7) (by decide +kernel)
theorem zw_X12_laysSingle_1275 : Cond.fieldLink RX12 125 "ShortEnoughModel" "hand" "[I" ∈ wsX12_laysSingle := List.mem_of_getElem? (i := 8) (by decide +kernel)
theorem zw_X12_laysSingle_1276 : Cond.fieldLink RX12 100 "ShortEnoughModel" "free" "[I" ∈ wsX12_laysSingle := List.mem_of_getElem? (i := 9) (by decide +kernel)
set_option maxHeartbeats 4000000 in
set_option maxRecDepth 100000 in
theorem zf_X12_laysSingle (l : Launch) (dC : Nat → ClassId) (dI : Nat → Nat → Nat) (h0 : Nat) (a0 : Nat → Nat) (b0 : Nat → Int32) (c0 : Nat → Int64) (k1 : Nat) (f1 : Nat → Int32) (k2 : Nat) (f2 : Nat → Int32) (k3 : Nat) (f3 : Nat → Int32) (k4 : Nat) (f4 : Nat → Int32) (k5 : Nat) (f5 : Nat → Int32) (k6 : Nat) (f6 : Nat → Int32) (k7 : Nat) (f7 : Nat → Int32) (k8 : Nat) (f8 : Nat → Int32) (k9 : Nat) (f9 : Nat → Int32) (k10 : Nat) (f10 : Nat → Int32) (k11 : Nat) (f11 : Nat → Int32) (k12 : Nat) (f12 : Nat → Int32) (k13 : Nat) (f13 : Nat → Int64) (k14 : Nat) (f14 : Nat → Int64) (k15 : Nat) (f15 : Nat → Int64) (k16 : Nat) (f16 : Nat → Int64) (k17 : Nat) (f17 : Nat → Int32) (k18 : Nat) (f18 : Nat → Int64) (k19 : Nat) (f19 : Nat → Int32) (k20 : Nat) (f20 : Nat → Int32) (o : Int32 × Int32 × Int32 × Int32 × Int32 × Int32 × Int32 × Int32 × (Nat → Int32) × (Nat → Int32) × (Nat → Int64) × (Nat → Int64) × (Nat → Int64)) (hfn : fn_X12_laysSingle (c0 34) (b0 41) (b0 42) f1 f2 f3 f4 f5 f6 f7 f8 f9 f10 f11 f12 f13 f14 f15 f16 f17 f18 f19 f20 = some o) (sz : Nat) : zMv l yX12_laysSingle wsX12_laysSingle ({ frames := 5, cells := 0, slots := 0, locals := 134 }) (dC, dI) vwCl [.ref h0] [(h0, .inr (12, zO a0 b0 c0)), zVi (a0 17) k1 2 f1, zVi (a0 27) k2 28 f2, zVi (a0 25) k3 28 f3, zVi (a0 29) k4 14 f4, zVi (a0 37) k5 14 f5, zVi (a0 39) k6 14 f6, zVi (a0 24) k7 2 f7, zVi (a0 20) k8 28 f8, zVi (a0 21) k9 28 f9, zVi (a0 16) k10 8 f10, zVi (a0 12) k11 2 f11, zVi (a0 19) k12 28 f12, zVl (a0 31) k13 14 f13, zVl (a0 22) k14 28 f14, zVl (a0 23) k15 28 f15, zVl (a0 32) k16 14 f16, zVi (a0 14) k17 8 f17, zVl (a0 40) k18 14 f18, zVi (a0 15) k19 8 f19, zVi (a0 26) k20 28 f20] [(k1, .int), (k2, .int), (k3, .int), (k4, .int), (k5, .int), (k6, .int), (k7, .int), (k8, .int), (k9, .int), (k10, .int), (k11, .int), (k12, .int), (k13, .long), (k14, .long), (k15, .long), (k16, .long), (k17, .int), (k18, .long), (k19, .int), (k20, .int)] (fun _ => True) [(h0, .inr (12, zO a0 (zI (zI (zI (zI (zI (zI (zI (zI b0 30 o.1) 33 o.2.1) 41 o.2.2.1) 42 o.2.2.2.1) 50 o.2.2.2.2.1) 51 o.2.2.2.2.2.1) 52 o.2.2.2.2.2.2.1) 53 o.2.2.2.2.2.2.2.1) c0)), zVi (a0 17) k1 2 f1, zVi (a0 27) k2 28 f2, zVi (a0 25) k3 28 f3, zVi (a0 29) k4 14 o.2.2.2.2.2.2.2.2.1, zVi (a0 37) k5 14 f5, zVi (a0 39) k6 14 o.2.2.2.2.2.2.2.2.2.1, zVi (a0 24) k7 2 f7, zVi (a0 20) k8 28 f8, zVi (a0 21) k9 28 f9, zVi (a0 16) k10 8 f10, zVi (a0 12) k11 2 f11, zVi (a0 19) k12 28 f12, zVl (a0 31) k13 14 o.2.2.2.2.2.2.2.2.2.2.1, zVl (a0 22) k14 28 f14, zVl (a0 23) k15 28 f15, zVl (a0 32) k16 14 o.2.2.2.2.2.2.2.2.2.2.2.1, zVi (a0 14) k17 8 f17, zVl (a0 40) k18 14 o.2.2.2.2.2.2.2.2.2.2.2.2, zVi (a0 15) k19 8 f19, zVi (a0 26) k20 28 f20] [(k1, .int), (k2, .int), (k3, .int), (k4, .int), (k5, .int), (k6, .int), (k7, .int), (k8, .int), (k9, .int), (k10, .int), (k11, .int), (k12, .int), (k13, .long), (k14, .long), (k15, .long), (k16, .long), (k17, .int), (k18, .long), (k19, .int), (k20, .int)] sz := by
  refine zgov (cc := cX12_laysSingle) (maxL := 6) (ret := none) (C0 := RX12) (lv0 := [(0, .ref h0)]) zpl_X12 rfl rfl rfl (Nat.le_of_ble_eq_true rfl) ?_
  intro p e s m below meth c A ls Q hx hb hr hts hown hlocks hml hP hK hD hA hS hl hQ
  unfold fn_X12_laysSingle at hfn
  refine lv_aload_n hx hb dX12_laysSingle_0 rfl (lv_at hl 0 rfl) ?_
  obtain ⟨o_1, hqo_1, hfn⟩ := zb_s hfn
  refine zcVv (ci := 12) (rest := []) (pc' := 4) (ws' := [(h0, .inr (12, zO a0 (zI b0 30 o_1.1) c0)), zVi (a0 17) k1 2 f1, zVi (a0 27) k2 28 f2, zVi (a0 25) k3 28 f3, zVi (a0 29) k4 14 o_1.2, zVi (a0 37) k5 14 f5, zVi (a0 39) k6 14 f6, zVi (a0 24) k7 2 f7, zVi (a0 20) k8 28 f8, zVi (a0 21) k9 28 f9, zVi (a0 16) k10 8 f10, zVi (a0 12) k11 2 f11, zVi (a0 19) k12 28 f12, zVl (a0 31) k13 14 f13, zVl (a0 22) k14 28 f14, zVl (a0 23) k15 28 f15, zVl (a0 32) k16 14 f16, zVi (a0 14) k17 8 f17, zVl (a0 40) k18 14 f18, zVi (a0 15) k19 8 f19, zVi (a0 26) k20 28 f20]) hP hK hD hS hA ⟨hx, hb, hml, hown, hts⟩ (zf_X12_laysFree l dC dI h0 a0 b0 c0 k1 f1 k2 f2 k3 f3 k4 f4 o_1 hqo_1 s.heap.size) (cwV 0 hts gX12_laysSingle_X12_laysFree rfl rfl rfl zhd_X12_laysFree ⟨Nat.le_of_ble_eq_true rfl, Nat.le_of_ble_eq_true rfl⟩) [0, 1, 2, 3, 4] rfl (of_decide_eq_true rfl) [0, 1, 2, 3] rfl rfl rfl rfl hl.1 rfl (Nat.le_of_ble_eq_true rfl) dX12_laysSingle_1 ⟨Nat.le_of_ble_eq_true rfl, Nat.le_of_ble_eq_true rfl⟩ [some 0, some 1, some 2, some 3, some 4] (of_decide_eq_true rfl) (of_decide_eq_true rfl) rfl rfl rfl (fun H locs hP hD hS => ?_)
  refine lv_aload_n hx hb dX12_laysSingle_4 rfl (lv_at hl 0 rfl) ?_
  refine lv_iconst (v := (-1)) hx hb dX12_laysSingle_5 zci_m1 ?_
  refine va_put (D := (dC, dI)) (ci := 12) (v := .int (-1)) (ty := .int) (C := RX12) (T := TX12) (N := 67) hx hb hts zn_X12_laysSingle_X12 tyX12 tyX12_ok nmX12 hown hK hP hD hS 0 rfl rfl 33 (of_decide_eq_true rfl) (hts (.fieldLink RX12 112 "ShortEnoughModel" "wideNumber" "I") zw_X12_laysSingle_1268) (fun _ h9 => h9) rfl (tyX12_ok 33 (of_decide_eq_true rfl)) rfl rfl (Nat.le_of_ble_eq_true rfl) dX12_laysSingle_6 (fun H locs hP hD hS => ?_)
  have hP : va_P (dC, dI) vwCl [(h0, .inr (12, zO a0 (zI (zI b0 30 o_1.1) 33 (-1)) c0)), zVi (a0 17) k1 2 f1, zVi (a0 27) k2 28 f2, zVi (a0 25) k3 28 f3, zVi (a0 29) k4 14 o_1.2, zVi (a0 37) k5 14 f5, zVi (a0 39) k6 14 f6, zVi (a0 24) k7 2 f7, zVi (a0 20) k8 28 f8, zVi (a0 21) k9 28 f9, zVi (a0 16) k10 8 f10, zVi (a0 12) k11 2 f11, zVi (a0 19) k12 28 f12, zVl (a0 31) k13 14 f13, zVl (a0 22) k14 28 f14, zVl (a0 23) k15 28 f15, zVl (a0 32) k16 14 f16, zVi (a0 14) k17 8 f17, zVl (a0 40) k18 14 f18, zVi (a0 15) k19 8 f19, zVi (a0 26) k20 28 f20] H := hP
  have hD := zDW hD hP rfl
  refine lv_aload_n hx hb dX12_laysSingle_9 rfl (lv_at hl 0 rfl) ?_
  refine lv_iconst (v := 0) hx hb dX12_laysSingle_10 zci_0 ?_
  refine va_put (D := (dC, dI)) (ci := 12) (v := .int 0) (ty := .int) (C := RX12) (T := TX12) (N := 67) hx hb hts zn_X12_laysSingle_X12 tyX12 tyX12_ok nmX12 hown hK hP hD hS 0 rfl rfl 50 (of_decide_eq_true rfl) (hts (.fieldLink RX12 165 "ShortEnoughModel" "singlePass" "I") zw_X12_laysSingle_1269) (fun _ h9 => h9) rfl (tyX12_ok 50 (of_decide_eq_true rfl)) rfl rfl (Nat.le_of_ble_eq_true rfl) dX12_laysSingle_11 (fun H locs hP hD hS => ?_)
  have hP : va_P (dC, dI) vwCl [(h0, .inr (12, zO a0 (zI (zI (zI b0 30 o_1.1) 33 (-1)) 50 0) c0)), zVi (a0 17) k1 2 f1, zVi (a0 27) k2 28 f2, zVi (a0 25) k3 28 f3, zVi (a0 29) k4 14 o_1.2, zVi (a0 37) k5 14 f5, zVi (a0 39) k6 14 f6, zVi (a0 24) k7 2 f7, zVi (a0 20) k8 28 f8, zVi (a0 21) k9 28 f9, zVi (a0 16) k10 8 f10, zVi (a0 12) k11 2 f11, zVi (a0 19) k12 28 f12, zVl (a0 31) k13 14 f13, zVl (a0 22) k14 28 f14, zVl (a0 23) k15 28 f15, zVl (a0 32) k16 14 f16, zVi (a0 14) k17 8 f17, zVl (a0 40) k18 14 f18, zVi (a0 15) k19 8 f19, zVi (a0 26) k20 28 f20] H := hP
  have hD := zDW hD hP rfl
  refine lv_aload_n hx hb dX12_laysSingle_14 rfl (lv_at hl 0 rfl) ?_
  refine lv_iconst (v := 0) hx hb dX12_laysSingle_15 zci_0 ?_
  refine va_put (D := (dC, dI)) (ci := 12) (v := .int 0) (ty := .int) (C := RX12) (T := TX12) (N := 67) hx hb hts zn_X12_laysSingle_X12 tyX12 tyX12_ok nmX12 hown hK hP hD hS 0 rfl rfl 51 (of_decide_eq_true rfl) (hts (.fieldLink RX12 168 "ShortEnoughModel" "singleLess" "I") zw_X12_laysSingle_1270) (fun _ h9 => h9) rfl (tyX12_ok 51 (of_decide_eq_true rfl)) rfl rfl (Nat.le_of_ble_eq_true rfl) dX12_laysSingle_16 (fun H locs hP hD hS => ?_)
  have hP : va_P (dC, dI) vwCl [(h0, .inr (12, zO a0 (zI (zI (zI (zI b0 30 o_1.1) 33 (-1)) 50 0) 51 0) c0)), zVi (a0 17) k1 2 f1, zVi (a0 27) k2 28 f2, zVi (a0 25) k3 28 f3, zVi (a0 29) k4 14 o_1.2, zVi (a0 37) k5 14 f5, zVi (a0 39) k6 14 f6, zVi (a0 24) k7 2 f7, zVi (a0 20) k8 28 f8, zVi (a0 21) k9 28 f9, zVi (a0 16) k10 8 f10, zVi (a0 12) k11 2 f11, zVi (a0 19) k12 28 f12, zVl (a0 31) k13 14 f13, zVl (a0 22) k14 28 f14, zVl (a0 23) k15 28 f15, zVl (a0 32) k16 14 f16, zVi (a0 14) k17 8 f17, zVl (a0 40) k18 14 f18, zVi (a0 15) k19 8 f19, zVi (a0 26) k20 28 f20] H := hP
  have hD := zDW hD hP rfl
  refine lv_aload_n hx hb dX12_laysSingle_19 rfl (lv_at hl 0 rfl) ?_
  refine lv_iconst (v := (-1)) hx hb dX12_laysSingle_20 zci_m1 ?_
  refine va_put (D := (dC, dI)) (ci := 12) (v := .int (-1)) (ty := .int) (C := RX12) (T := TX12) (N := 67) hx hb hts zn_X12_laysSingle_X12 tyX12 tyX12_ok nmX12 hown hK hP hD hS 0 rfl rfl 52 (of_decide_eq_true rfl) (hts (.fieldLink RX12 171 "ShortEnoughModel" "singleGroup" "I") zw_X12_laysSingle_1271) (fun _ h9 => h9) rfl (tyX12_ok 52 (of_decide_eq_true rfl)) rfl rfl (Nat.le_of_ble_eq_true rfl) dX12_laysSingle_21 (fun H locs hP hD hS => ?_)
  have hP : va_P (dC, dI) vwCl [(h0, .inr (12, zO a0 (zI (zI (zI (zI (zI b0 30 o_1.1) 33 (-1)) 50 0) 51 0) 52 (-1)) c0)), zVi (a0 17) k1 2 f1, zVi (a0 27) k2 28 f2, zVi (a0 25) k3 28 f3, zVi (a0 29) k4 14 o_1.2, zVi (a0 37) k5 14 f5, zVi (a0 39) k6 14 f6, zVi (a0 24) k7 2 f7, zVi (a0 20) k8 28 f8, zVi (a0 21) k9 28 f9, zVi (a0 16) k10 8 f10, zVi (a0 12) k11 2 f11, zVi (a0 19) k12 28 f12, zVl (a0 31) k13 14 f13, zVl (a0 22) k14 28 f14, zVl (a0 23) k15 28 f15, zVl (a0 32) k16 14 f16, zVi (a0 14) k17 8 f17, zVl (a0 40) k18 14 f18, zVi (a0 15) k19 8 f19, zVi (a0 26) k20 28 f20] H := hP
  have hD := zDW hD hP rfl
  refine lv_aload_n hx hb dX12_laysSingle_24 rfl (lv_at hl 0 rfl) ?_
  refine lv_iconst (v := (-1)) hx hb dX12_laysSingle_25 zci_m1 ?_
  refine va_put (D := (dC, dI)) (ci := 12) (v := .int (-1)) (ty := .int) (C := RX12) (T := TX12) (N := 67) hx hb hts zn_X12_laysSingle_X12 tyX12 tyX12_ok nmX12 hown hK hP hD hS 0 rfl rfl 53 (of_decide_eq_true rfl) (hts (.fieldLink RX12 174 "ShortEnoughModel" "singleFormat" "I") zw_X12_laysSingle_1272) (fun _ h9 => h9) rfl (tyX12_ok 53 (of_decide_eq_true rfl)) rfl rfl (Nat.le_of_ble_eq_true rfl) dX12_laysSingle_26 (fun H locs hP hD hS => ?_)
  have hP : va_P (dC, dI) vwCl [(h0, .inr (12, zO a0 (zI (zI (zI (zI (zI (zI b0 30 o_1.1) 33 (-1)) 50 0) 51 0) 52 (-1)) 53 (-1)) c0)), zVi (a0 17) k1 2 f1, zVi (a0 27) k2 28 f2, zVi (a0 25) k3 28 f3, zVi (a0 29) k4 14 o_1.2, zVi (a0 37) k5 14 f5, zVi (a0 39) k6 14 f6, zVi (a0 24) k7 2 f7, zVi (a0 20) k8 28 f8, zVi (a0 21) k9 28 f9, zVi (a0 16) k10 8 f10, zVi (a0 12) k11 2 f11, zVi (a0 19) k12 28 f12, zVl (a0 31) k13 14 f13, zVl (a0 22) k14 28 f14, zVl (a0 23) k15 28 f15, zVl (a0 32) k16 14 f16, zVi (a0 14) k17 8 f17, zVl (a0 40) k18 14 f18, zVi (a0 15) k19 8 f19, zVi (a0 26) k20 28 f20] H := hP
  have hD := zDW hD hP rfl
  refine lv_aload_n hx hb dX12_laysSingle_29 rfl (lv_at hl 0 rfl) ?_
  obtain ⟨o_5, hqo_5, hfn⟩ := zb_s hfn
  refine zcVv (ci := 12) (rest := []) (pc' := 33) (ws' := [(h0, .inr (12, zO a0 (zI (zI (zI (zI (zI (zI b0 30 o_1.1) 33 (-1)) 50 0) 51 0) 52 (-1)) 53 (-1)) c0)), zVi (a0 17) k1 2 f1, zVi (a0 27) k2 28 f2, zVi (a0 25) k3 28 f3, zVi (a0 29) k4 14 o_1.2, zVi (a0 37) k5 14 f5, zVi (a0 39) k6 14 o_5, zVi (a0 24) k7 2 f7, zVi (a0 20) k8 28 f8, zVi (a0 21) k9 28 f9, zVi (a0 16) k10 8 f10, zVi (a0 12) k11 2 f11, zVi (a0 19) k12 28 f12, zVl (a0 31) k13 14 f13, zVl (a0 22) k14 28 f14, zVl (a0 23) k15 28 f15, zVl (a0 32) k16 14 f16, zVi (a0 14) k17 8 f17, zVl (a0 40) k18 14 f18, zVi (a0 15) k19 8 f19, zVi (a0 26) k20 28 f20]) hP hK hD hS hA ⟨hx, hb, hml, hown, hts⟩ (zf_X12_triesHand l dC dI h0 a0 (zI (zI (zI (zI (zI (zI b0 30 o_1.1) 33 (-1)) 50 0) 51 0) 52 (-1)) 53 (-1)) c0 k1 f1 k5 f5 k6 f6 o_5 hqo_5 H.size) (cwV 0 hts gX12_laysSingle_X12_triesHand rfl rfl rfl zhd_X12_triesHand ⟨Nat.le_of_ble_eq_true rfl, Nat.le_of_ble_eq_true rfl⟩) [0, 1, 5, 6] rfl (of_decide_eq_true rfl) [0, 4, 5] rfl rfl rfl rfl hl.1 rfl (Nat.le_of_ble_eq_true rfl) dX12_laysSingle_30 ⟨Nat.le_of_ble_eq_true rfl, Nat.le_of_ble_eq_true rfl⟩ [some 0, some 1, none, none, none, some 2, some 3] (of_decide_eq_true rfl) (of_decide_eq_true rfl) rfl rfl rfl (fun H locs hP hD hS => ?_)
  refine lv_aload_n hx hb dX12_laysSingle_33 rfl (lv_at hl 0 rfl) ?_
  obtain ⟨o_9, hqo_9, hfn⟩ := zb_s hfn
  refine zcVi (ci := 12) (rest := []) (pc' := 37) (ws' := [(h0, .inr (12, zO a0 (zI (zI (zI (zI (zI (zI b0 30 o_1.1) 33 (-1)) 50 0) 51 0) 52 (-1)) 53 (-1)) c0)), zVi (a0 17) k1 2 f1, zVi (a0 27) k2 28 f2, zVi (a0 25) k3 28 f3, zVi (a0 29) k4 14 o_1.2, zVi (a0 37) k5 14 f5, zVi (a0 39) k6 14 o_5, zVi (a0 24) k7 2 f7, zVi (a0 20) k8 28 f8, zVi (a0 21) k9 28 f9, zVi (a0 16) k10 8 f10, zVi (a0 12) k11 2 f11, zVi (a0 19) k12 28 f12, zVl (a0 31) k13 14 f13, zVl (a0 22) k14 28 f14, zVl (a0 23) k15 28 f15, zVl (a0 32) k16 14 f16, zVi (a0 14) k17 8 f17, zVl (a0 40) k18 14 f18, zVi (a0 15) k19 8 f19, zVi (a0 26) k20 28 f20]) hP hK hD hS hA ⟨hx, hb, hml, hown, hts⟩ (zf_X12_costTried l dC dI h0 a0 (zI (zI (zI (zI (zI (zI b0 30 o_1.1) 33 (-1)) 50 0) 51 0) 52 (-1)) 53 (-1)) c0 k7 f7 k1 f1 k8 f8 k6 o_5 k9 f9 k10 f10 o_9 hqo_9 H.size) (cwV 0 hts gX12_laysSingle_X12_costTried rfl rfl rfl zhd_X12_costTried ⟨Nat.le_of_ble_eq_true rfl, Nat.le_of_ble_eq_true rfl⟩) [0, 7, 1, 8, 6, 9, 10] rfl (of_decide_eq_true rfl) [6, 0, 7, 5, 8, 9] rfl rfl rfl rfl hl.1 rfl (Nat.le_of_ble_eq_true rfl) dX12_laysSingle_34 ⟨Nat.le_of_ble_eq_true rfl, Nat.le_of_ble_eq_true rfl⟩ [some 0, some 2, none, none, none, none, some 4, some 1, some 3, some 5, some 6] (of_decide_eq_true rfl) (of_decide_eq_true rfl) rfl rfl rfl (fun H locs hP hD hS => ?_)
  refine lv_istore_n (lv' := [(1, .int o_9), (0, .ref h0)]) hx hb dX12_laysSingle_37 rfl hl (of_decide_eq_true rfl) rfl (fun ls hl => ?_)
  refine lv_iload_n hx hb dX12_laysSingle_38 rfl (lv_at hl 0 rfl) ?_
  refine lv_istore_n (lv' := [(2, .int o_9), (1, .int o_9), (0, .ref h0)]) hx hb dX12_laysSingle_39 rfl hl (of_decide_eq_true rfl) rfl (fun ls hl => ?_)
  refine lv_iconst (v := 0) hx hb dX12_laysSingle_40 zci_0 ?_
  refine lv_istore_n (lv' := [(3, .int 0), (2, .int o_9), (1, .int o_9), (0, .ref h0)]) hx hb dX12_laysSingle_41 rfl hl (of_decide_eq_true rfl) rfl (fun ls hl => ?_)
  obtain ⟨bd_13, ebd_13, hfn⟩ := zl_g hfn
  have lp_13 : ∀ (n : Nat) (s_13 : Int32 × Int32 × Int32 × Int32 × Int32 × Int32 × Int32 × Int32 × (Nat → Int64) × (Nat → Int64) × (Nat → Int32) × (Nat → Int64)) (H : Heap) (locs : List Loc) (ls : Array Slot), zl bd_13 n s_13 = some o → va_P (dC, dI) vwCl [(h0, .inr (12, zO a0 (zI (zI (zI (zI (zI (zI (zI (zI b0 30 o_1.1) 33 (-1)) 41 s_13.2.2.1) 42 s_13.2.2.2.1) 50 s_13.2.2.2.2.1) 51 s_13.2.2.2.2.2.1) 52 s_13.2.2.2.2.2.2.1) 53 s_13.2.2.2.2.2.2.2.1) c0)), zVi (a0 17) k1 2 f1, zVi (a0 27) k2 28 f2, zVi (a0 25) k3 28 f3, zVi (a0 29) k4 14 o_1.2, zVi (a0 37) k5 14 f5, zVi (a0 39) k6 14 s_13.2.2.2.2.2.2.2.2.2.2.1, zVi (a0 24) k7 2 f7, zVi (a0 20) k8 28 f8, zVi (a0 21) k9 28 f9, zVi (a0 16) k10 8 f10, zVi (a0 12) k11 2 f11, zVi (a0 19) k12 28 f12, zVl (a0 31) k13 14 s_13.2.2.2.2.2.2.2.2.1, zVl (a0 22) k14 28 f14, zVl (a0 23) k15 28 f15, zVl (a0 32) k16 14 s_13.2.2.2.2.2.2.2.2.2.1, zVi (a0 14) k17 8 f17, zVl (a0 40) k18 14 s_13.2.2.2.2.2.2.2.2.2.2.2, zVi (a0 15) k19 8 f19, zVi (a0 26) k20 28 f20] H → va_D A [(h0, .inr (12, zO a0 (zI (zI (zI (zI (zI (zI (zI (zI b0 30 o_1.1) 33 (-1)) 41 s_13.2.2.1) 42 s_13.2.2.2.1) 50 s_13.2.2.2.2.1) 51 s_13.2.2.2.2.2.1) 52 s_13.2.2.2.2.2.2.1) 53 s_13.2.2.2.2.2.2.2.1) c0)), zVi (a0 17) k1 2 f1, zVi (a0 27) k2 28 f2, zVi (a0 25) k3 28 f3, zVi (a0 29) k4 14 o_1.2, zVi (a0 37) k5 14 f5, zVi (a0 39) k6 14 s_13.2.2.2.2.2.2.2.2.2.2.1, zVi (a0 24) k7 2 f7, zVi (a0 20) k8 28 f8, zVi (a0 21) k9 28 f9, zVi (a0 16) k10 8 f10, zVi (a0 12) k11 2 f11, zVi (a0 19) k12 28 f12, zVl (a0 31) k13 14 s_13.2.2.2.2.2.2.2.2.1, zVl (a0 22) k14 28 f14, zVl (a0 23) k15 28 f15, zVl (a0 32) k16 14 s_13.2.2.2.2.2.2.2.2.2.1, zVi (a0 14) k17 8 f17, zVl (a0 40) k18 14 s_13.2.2.2.2.2.2.2.2.2.2.2, zVi (a0 15) k19 8 f19, zVi (a0 26) k20 28 f20] → va_S A s.heap H locs → lv_has ls 6 [(3, .int s_13.2.1), (2, .int s_13.1), (1, .int o_9), (0, .ref h0)] → W p l e (headSpec wsX12_laysSingle ({ frames := 5, cells := 0, slots := 0, locals := 134 })).room s m ([.ref h0] : List Value).toArray below meth c H locs 0 0 Q (F0 m 42 ls []) := by
    intro n
    induction n with
    | zero => exact fun _ _ _ _ hfn => (zl_0 hfn).elim
    | succ n ih_13 =>
      intro s_13 H locs ls hfn hP hD hS hl
      have hfn := zl_s ebd_13 hfn
      refine lv_iload_n hx hb dX12_laysSingle_42 rfl (lv_at hl 0 rfl) ?_
      refine lv_aload_n hx hb dX12_laysSingle_43 rfl (lv_at hl 3 rfl) ?_
      refine va_get (D := (dC, dI)) (ci := 12) (v := .int o_1.1) (C := RX12) (T := TX12) (N := 67) hx hb hts zn_X12_laysSingle_X12 hown hK hP 0 rfl rfl 30 (of_decide_eq_true rfl) (hts (.fieldLink RX12 103 "ShortEnoughModel" "freeMany" "I") zw_X12_laysSingle_1273) (fun _ h9 => h9) rfl dX12_laysSingle_44 ?_
      refine lv_icmp_ge (tgt := 185) hx hb dX12_laysSingle_47 (of_decide_eq_true rfl) (fun c_14 => ?_) (fun c_14 => ?_)
      · have hfn := (if_pos c_14).symm.trans hfn
        have ho := Option.some.inj hfn
        subst ho
        exact zrv hx hb hr hK hP hD hS hQ trivial hlocks dX12_laysSingle_185
      have hfn := (if_neg c_14).symm.trans hfn
      refine lv_iconst (v := 0) hx hb dX12_laysSingle_50 zci_0 ?_
      refine lv_istore (lv' := [(4, .int 0), (3, .int s_13.2.1), (2, .int s_13.1), (1, .int o_9), (0, .ref h0)]) hx hb dX12_laysSingle_51 hl (of_decide_eq_true rfl) rfl (fun ls hl => ?_)
      obtain ⟨bd_15, ebd_15, hfn⟩ := zl_g hfn
      have lp_15 : ∀ (n : Nat) (s_15 : Int32 × Int32 × Int32 × Int32 × Int32 × Int32 × Int32 × Int32 × (Nat → Int64) × (Nat → Int64) × (Nat → Int32) × (Nat → Int64)) (H : Heap) (locs : List Loc) (ls : Array Slot), zl bd_15 n s_15 = some o → va_P (dC, dI) vwCl [(h0, .inr (12, zO a0 (zI (zI (zI (zI (zI (zI (zI (zI b0 30 o_1.1) 33 (-1)) 41 s_15.2.2.1) 42 s_15.2.2.2.1) 50 s_15.2.2.2.2.1) 51 s_15.2.2.2.2.2.1) 52 s_15.2.2.2.2.2.2.1) 53 s_15.2.2.2.2.2.2.2.1) c0)), zVi (a0 17) k1 2 f1, zVi (a0 27) k2 28 f2, zVi (a0 25) k3 28 f3, zVi (a0 29) k4 14 o_1.2, zVi (a0 37) k5 14 f5, zVi (a0 39) k6 14 s_15.2.2.2.2.2.2.2.2.2.2.1, zVi (a0 24) k7 2 f7, zVi (a0 20) k8 28 f8, zVi (a0 21) k9 28 f9, zVi (a0 16) k10 8 f10, zVi (a0 12) k11 2 f11, zVi (a0 19) k12 28 f12, zVl (a0 31) k13 14 s_15.2.2.2.2.2.2.2.2.1, zVl (a0 22) k14 28 f14, zVl (a0 23) k15 28 f15, zVl (a0 32) k16 14 s_15.2.2.2.2.2.2.2.2.2.1, zVi (a0 14) k17 8 f17, zVl (a0 40) k18 14 s_15.2.2.2.2.2.2.2.2.2.2.2, zVi (a0 15) k19 8 f19, zVi (a0 26) k20 28 f20] H → va_D A [(h0, .inr (12, zO a0 (zI (zI (zI (zI (zI (zI (zI (zI b0 30 o_1.1) 33 (-1)) 41 s_15.2.2.1) 42 s_15.2.2.2.1) 50 s_15.2.2.2.2.1) 51 s_15.2.2.2.2.2.1) 52 s_15.2.2.2.2.2.2.1) 53 s_15.2.2.2.2.2.2.2.1) c0)), zVi (a0 17) k1 2 f1, zVi (a0 27) k2 28 f2, zVi (a0 25) k3 28 f3, zVi (a0 29) k4 14 o_1.2, zVi (a0 37) k5 14 f5, zVi (a0 39) k6 14 s_15.2.2.2.2.2.2.2.2.2.2.1, zVi (a0 24) k7 2 f7, zVi (a0 20) k8 28 f8, zVi (a0 21) k9 28 f9, zVi (a0 16) k10 8 f10, zVi (a0 12) k11 2 f11, zVi (a0 19) k12 28 f12, zVl (a0 31) k13 14 s_15.2.2.2.2.2.2.2.2.1, zVl (a0 22) k14 28 f14, zVl (a0 23) k15 28 f15, zVl (a0 32) k16 14 s_15.2.2.2.2.2.2.2.2.2.1, zVi (a0 14) k17 8 f17, zVl (a0 40) k18 14 s_15.2.2.2.2.2.2.2.2.2.2.2, zVi (a0 15) k19 8 f19, zVi (a0 26) k20 28 f20] → va_S A s.heap H locs → lv_has ls 6 [(4, .int s_15.2.1), (3, .int s_13.2.1), (2, .int s_15.1), (1, .int o_9), (0, .ref h0)] → W p l e (headSpec wsX12_laysSingle ({ frames := 5, cells := 0, slots := 0, locals := 134 })).room s m ([.ref h0] : List Value).toArray below meth c H locs 0 0 Q (F0 m 53 ls []) := by
        intro n
        induction n with
        | zero => exact fun _ _ _ _ hfn => (zl_0 hfn).elim
        | succ n ih_15 =>
          intro s_15 H locs ls hfn hP hD hS hl
          have hfn := zl_s ebd_15 hfn
          refine lv_iload hx hb dX12_laysSingle_53 (lv_at hl 0 rfl) ?_
          refine lv_aload_n hx hb dX12_laysSingle_55 rfl (lv_at hl 4 rfl) ?_
          refine va_get (D := (dC, dI)) (ci := 12) (v := .ref (a0 12)) (C := RX12) (T := TX12) (N := 67) hx hb hts zn_X12_laysSingle_X12 hown hK hP 0 rfl rfl 12 (of_decide_eq_true rfl) (hts (.fieldLink RX12 47 "ShortEnoughModel" "formats" "[I") zw_X12_laysSingle_1274) (fun _ h9 => h9) rfl dX12_laysSingle_56 ?_
          refine lv_iconst (v := 0) hx hb dX12_laysSingle_59 zci_0 ?_
          refine va_iald hx hb hK hP 11 10 rfl rfl (zv_in (by decide +kernel)) dX12_laysSingle_60 ?_
          refine lv_icmp_ge (tgt := 179) hx hb dX12_laysSingle_61 (of_decide_eq_true rfl) (fun c_16 => ?_) (fun c_16 => ?_)
          · have hfn := (if_pos c_16).symm.trans hfn
            refine lv_iinc (v := (s_13.2.1 + 1)) (lv' := [(3, .int (s_13.2.1 + 1)), (4, .int s_15.2.1), (2, .int s_15.1), (1, .int o_9), (0, .ref h0)]) hx hb dX12_laysSingle_179 hl (k := 1) rfl rfl (of_decide_eq_true rfl) rfl (fun ls hl => ?_)
            refine lv_goto (tgt := 42) hx hb dX12_laysSingle_182 (of_decide_eq_true rfl) ?_
            exact ih_13 (s_15.1, (s_13.2.1 + 1), s_15.2.2.1, s_15.2.2.2.1, s_15.2.2.2.2.1, s_15.2.2.2.2.2.1, s_15.2.2.2.2.2.2.1, s_15.2.2.2.2.2.2.2.1, s_15.2.2.2.2.2.2.2.2.1, s_15.2.2.2.2.2.2.2.2.2.1, s_15.2.2.2.2.2.2.2.2.2.2.1, s_15.2.2.2.2.2.2.2.2.2.2.2) H locs ls hfn hP hD hS (lv_sub hl [0, 2, 3, 4] rfl)
          have hfn := (if_neg c_16).symm.trans hfn
          refine lv_aload_n hx hb dX12_laysSingle_64 rfl (lv_at hl 4 rfl) ?_
          refine va_get (D := (dC, dI)) (ci := 12) (v := .ref (a0 37)) (C := RX12) (T := TX12) (N := 67) hx hb hts zn_X12_laysSingle_X12 hown hK hP 0 rfl rfl 37 (of_decide_eq_true rfl) (hts (.fieldLink RX12 125 "ShortEnoughModel" "hand" "[I") zw_X12_laysSingle_1275) (fun _ h9 => h9) rfl dX12_laysSingle_65 ?_
          refine lv_aload_n hx hb dX12_laysSingle_68 rfl (lv_at hl 4 rfl) ?_
          refine va_get (D := (dC, dI)) (ci := 12) (v := .ref (a0 29)) (C := RX12) (T := TX12) (N := 67) hx hb hts zn_X12_laysSingle_X12 hown hK hP 0 rfl rfl 29 (of_decide_eq_true rfl) (hts (.fieldLink RX12 100 "ShortEnoughModel" "free" "[I") zw_X12_laysSingle_1276) (fun _ h9 => h9) rfl dX12_laysSingle_69 ?_
          refine lv_iload_n hx hb dX12_laysSingle_72 rfl (lv_at hl 1 rfl) ?_
          obtain ⟨h_17, hfn⟩ := zg_s hfn
          refine va_iald hx hb hK hP 4 3 rfl rfl h_17 dX12_laysSingle_73 ?_
          obtain ⟨h_18, hfn⟩ := zg_s hfn
          refine va_iald hx hb hK hP 5 4 rfl rfl h_18 dX12_laysSingle_74 ?_
          refine lv_iload hx hb dX12_laysSingle_75 (lv_at hl 0 rfl) ?_
          refine lv_icmp_ne (tgt := 83) hx hb dX12_laysSingle_77 (of_decide_eq_true rfl) (fun c_19 => ?_) (fun c_19 => ?_)
          · have hfn := (if_neg c_19).symm.trans hfn
            refine lv_aload_n hx hb dX12_laysSingle_83 rfl (lv_at hl 4 rfl) ?_
            obtain ⟨o_20, hqo_20, hfn⟩ := zb_s hfn
            refine zcVv (ci := 12) (rest := []) (pc' := 87) (ws' := [(h0, .inr (12, zO a0 (zI (zI (zI (zI (zI (zI (zI (zI b0 30 o_1.1) 33 (-1)) 41 s_15.2.2.1) 42 s_15.2.2.2.1) 50 s_15.2.2.2.2.1) 51 s_15.2.2.2.2.2.1) 52 s_15.2.2.2.2.2.2.1) 53 s_15.2.2.2.2.2.2.2.1) c0)), zVi (a0 17) k1 2 f1, zVi (a0 27) k2 28 f2, zVi (a0 25) k3 28 f3, zVi (a0 29) k4 14 o_1.2, zVi (a0 37) k5 14 f5, zVi (a0 39) k6 14 o_20, zVi (a0 24) k7 2 f7, zVi (a0 20) k8 28 f8, zVi (a0 21) k9 28 f9, zVi (a0 16) k10 8 f10, zVi (a0 12) k11 2 f11, zVi (a0 19) k12 28 f12, zVl (a0 31) k13 14 s_15.2.2.2.2.2.2.2.2.1, zVl (a0 22) k14 28 f14, zVl (a0 23) k15 28 f15, zVl (a0 32) k16 14 s_15.2.2.2.2.2.2.2.2.2.1, zVi (a0 14) k17 8 f17, zVl (a0 40) k18 14 s_15.2.2.2.2.2.2.2.2.2.2.2, zVi (a0 15) k19 8 f19, zVi (a0 26) k20 28 f20]) hP hK hD hS hA ⟨hx, hb, hml, hown, hts⟩ (zf_X12_triesHand l dC dI h0 a0 (zI (zI (zI (zI (zI (zI (zI (zI b0 30 o_1.1) 33 (-1)) 41 s_15.2.2.1) 42 s_15.2.2.2.1) 50 s_15.2.2.2.2.1) 51 s_15.2.2.2.2.2.1) 52 s_15.2.2.2.2.2.2.1) 53 s_15.2.2.2.2.2.2.2.1) c0 k1 f1 k5 f5 k6 s_15.2.2.2.2.2.2.2.2.2.2.1 o_20 hqo_20 H.size) (cwV 0 hts gX12_laysSingle_X12_triesHand rfl rfl rfl zhd_X12_triesHand ⟨Nat.le_of_ble_eq_true rfl, Nat.le_of_ble_eq_true rfl⟩) [0, 1, 5, 6] rfl (of_decide_eq_true rfl) [0, 4, 5] rfl rfl rfl rfl hl.1 rfl (Nat.le_of_ble_eq_true rfl) dX12_laysSingle_84 ⟨Nat.le_of_ble_eq_true rfl, Nat.le_of_ble_eq_true rfl⟩ [some 0, some 1, none, none, none, some 2, some 3] (of_decide_eq_true rfl) (of_decide_eq_true rfl) rfl rfl rfl (fun H locs hP hD hS => ?_)
            refine lv_aload_n hx hb dX12_laysSingle_87 rfl (lv_at hl 4 rfl) ?_
            refine lv_aload_n hx hb dX12_laysSingle_88 rfl (lv_at hl 4 rfl) ?_
            refine va_get (D := (dC, dI)) (ci := 12) (v := .ref (a0 29)) (C := RX12) (T := TX12) (N := 67) hx hb hts zn_X12_laysSingle_X12 hown hK hP 0 rfl rfl 29 (of_decide_eq_true rfl) (hts (.fieldLink RX12 100 "ShortEnoughModel" "free" "[I") zw_X12_laysSingle_1276) (fun _ h9 => h9) rfl dX12_laysSingle_89 ?_
            refine lv_iload_n hx hb dX12_laysSingle_92 rfl (lv_at hl 1 rfl) ?_
            refine va_iald hx hb hK hP 4 3 rfl rfl h_17 dX12_laysSingle_93 ?_
            refine lv_iload hx hb dX12_laysSingle_94 (lv_at hl 0 rfl) ?_
            obtain ⟨o_24, hqo_24, hfn⟩ := zb_s hfn
            refine zcVv (ci := 12) (rest := []) (pc' := 99) (ws' := [(h0, .inr (12, zO a0 (zI (zI (zI (zI (zI (zI (zI (zI b0 30 o_1.1) 33 (-1)) 41 s_15.2.2.1) 42 s_15.2.2.2.1) 50 s_15.2.2.2.2.1) 51 s_15.2.2.2.2.2.1) 52 s_15.2.2.2.2.2.2.1) 53 s_15.2.2.2.2.2.2.2.1) c0)), zVi (a0 17) k1 2 f1, zVi (a0 27) k2 28 f2, zVi (a0 25) k3 28 f3, zVi (a0 29) k4 14 o_1.2, zVi (a0 37) k5 14 f5, zVi (a0 39) k6 14 o_24, zVi (a0 24) k7 2 f7, zVi (a0 20) k8 28 f8, zVi (a0 21) k9 28 f9, zVi (a0 16) k10 8 f10, zVi (a0 12) k11 2 f11, zVi (a0 19) k12 28 f12, zVl (a0 31) k13 14 s_15.2.2.2.2.2.2.2.2.1, zVl (a0 22) k14 28 f14, zVl (a0 23) k15 28 f15, zVl (a0 32) k16 14 s_15.2.2.2.2.2.2.2.2.2.1, zVi (a0 14) k17 8 f17, zVl (a0 40) k18 14 s_15.2.2.2.2.2.2.2.2.2.2.2, zVi (a0 15) k19 8 f19, zVi (a0 26) k20 28 f20]) hP hK hD hS hA ⟨hx, hb, hml, hown, hts⟩ (zf_X12_triesGroup l dC dI h0 (o_1.2 s_13.2.1.toNatClampNeg) s_15.2.1 a0 (zI (zI (zI (zI (zI (zI (zI (zI b0 30 o_1.1) 33 (-1)) 41 s_15.2.2.1) 42 s_15.2.2.2.1) 50 s_15.2.2.2.2.1) 51 s_15.2.2.2.2.2.1) 52 s_15.2.2.2.2.2.2.1) 53 s_15.2.2.2.2.2.2.2.1) c0 k1 f1 k2 f2 k6 o_20 o_24 hqo_24 H.size) (cwV 2 hts gX12_laysSingle_X12_triesGroup rfl rfl rfl zhd_X12_triesGroup ⟨Nat.le_of_ble_eq_true rfl, Nat.le_of_ble_eq_true rfl⟩) [0, 1, 2, 6] rfl (of_decide_eq_true rfl) [0, 1, 5] rfl rfl rfl rfl hl.1 rfl (Nat.le_of_ble_eq_true rfl) dX12_laysSingle_96 ⟨Nat.le_of_ble_eq_true rfl, Nat.le_of_ble_eq_true rfl⟩ [some 0, some 1, some 2, none, none, none, some 3] (of_decide_eq_true rfl) (of_decide_eq_true rfl) rfl rfl rfl (fun H locs hP hD hS => ?_)
            refine lv_aload_n hx hb dX12_laysSingle_99 rfl (lv_at hl 4 rfl) ?_
            obtain ⟨o_28, hqo_28, hfn⟩ := zb_s hfn
            refine zcVb (ci := 12) (rest := []) (pc' := 103) (ws' := [(h0, .inr (12, zO a0 (zI (zI (zI (zI (zI (zI (zI (zI b0 30 o_1.1) 33 (-1)) 41 o_28.2.1) 42 o_28.2.2.1) 50 s_15.2.2.2.2.1) 51 s_15.2.2.2.2.2.1) 52 s_15.2.2.2.2.2.2.1) 53 s_15.2.2.2.2.2.2.2.1) c0)), zVi (a0 17) k1 2 f1, zVi (a0 27) k2 28 f2, zVi (a0 25) k3 28 f3, zVi (a0 29) k4 14 o_1.2, zVi (a0 37) k5 14 f5, zVi (a0 39) k6 14 o_24, zVi (a0 24) k7 2 f7, zVi (a0 20) k8 28 f8, zVi (a0 21) k9 28 f9, zVi (a0 16) k10 8 f10, zVi (a0 12) k11 2 f11, zVi (a0 19) k12 28 f12, zVl (a0 31) k13 14 o_28.2.2.2.1, zVl (a0 22) k14 28 f14, zVl (a0 23) k15 28 f15, zVl (a0 32) k16 14 o_28.2.2.2.2.1, zVi (a0 14) k17 8 f17, zVl (a0 40) k18 14 o_28.2.2.2.2.2, zVi (a0 15) k19 8 f19, zVi (a0 26) k20 28 f20]) hP hK hD hS hA ⟨hx, hb, hml, hown, hts⟩ (zf_X12_passes l dC dI h0 a0 (zI (zI (zI (zI (zI (zI (zI (zI b0 30 o_1.1) 33 (-1)) 41 s_15.2.2.1) 42 s_15.2.2.2.1) 50 s_15.2.2.2.2.1) 51 s_15.2.2.2.2.2.1) 52 s_15.2.2.2.2.2.2.1) 53 s_15.2.2.2.2.2.2.2.1) c0 k1 f1 k12 f12 k8 f8 k9 f9 k13 s_15.2.2.2.2.2.2.2.2.1 k14 f14 k15 f15 k16 s_15.2.2.2.2.2.2.2.2.2.1 k6 o_24 k17 f17 k18 s_15.2.2.2.2.2.2.2.2.2.2.2 k19 f19 k20 f20 o_28 hqo_28 H.size) (cwV 0 hts gX12_laysSingle_X12_passes rfl rfl rfl zhd_X12_passes ⟨Nat.le_of_ble_eq_true rfl, Nat.le_of_ble_eq_true rfl⟩) [0, 1, 12, 8, 9, 13, 14, 15, 16, 6, 17, 18, 19, 20] rfl (of_decide_eq_true rfl) [0, 11, 7, 8, 12, 13, 14, 15, 5, 16, 17, 18, 19] rfl rfl rfl rfl hl.1 rfl (Nat.le_of_ble_eq_true rfl) dX12_laysSingle_100 ⟨Nat.le_of_ble_eq_true rfl, Nat.le_of_ble_eq_true rfl⟩ [some 0, some 1, none, none, none, none, some 9, none, some 3, some 4, none, none, some 2, some 5, some 6, some 7, some 8, some 10, some 11, some 12, some 13] (of_decide_eq_true rfl) (of_decide_eq_true rfl) rfl rfl rfl (fun H locs hw_31n hP hD hS => ?_)
            refine lv_if_ne (tgt := 109) hx hb dX12_laysSingle_103 (of_decide_eq_true rfl) (fun c_32 => ?_) (fun c_32 => ?_)
            · have hfn := (if_neg c_32).symm.trans hfn
              refine lv_aload_n hx hb dX12_laysSingle_109 rfl (lv_at hl 4 rfl) ?_
              obtain ⟨o_33, hqo_33, hfn⟩ := zb_s hfn
              refine zcVi (ci := 12) (rest := []) (pc' := 113) (ws' := [(h0, .inr (12, zO a0 (zI (zI (zI (zI (zI (zI (zI (zI b0 30 o_1.1) 33 (-1)) 41 o_28.2.1) 42 o_28.2.2.1) 50 s_15.2.2.2.2.1) 51 s_15.2.2.2.2.2.1) 52 s_15.2.2.2.2.2.2.1) 53 s_15.2.2.2.2.2.2.2.1) c0)), zVi (a0 17) k1 2 f1, zVi (a0 27) k2 28 f2, zVi (a0 25) k3 28 f3, zVi (a0 29) k4 14 o_1.2, zVi (a0 37) k5 14 f5, zVi (a0 39) k6 14 o_24, zVi (a0 24) k7 2 f7, zVi (a0 20) k8 28 f8, zVi (a0 21) k9 28 f9, zVi (a0 16) k10 8 f10, zVi (a0 12) k11 2 f11, zVi (a0 19) k12 28 f12, zVl (a0 31) k13 14 o_28.2.2.2.1, zVl (a0 22) k14 28 f14, zVl (a0 23) k15 28 f15, zVl (a0 32) k16 14 o_28.2.2.2.2.1, zVi (a0 14) k17 8 f17, zVl (a0 40) k18 14 o_28.2.2.2.2.2, zVi (a0 15) k19 8 f19, zVi (a0 26) k20 28 f20]) hP hK hD hS hA ⟨hx, hb, hml, hown, hts⟩ (zf_X12_costTried l dC dI h0 a0 (zI (zI (zI (zI (zI (zI (zI (zI b0 30 o_1.1) 33 (-1)) 41 o_28.2.1) 42 o_28.2.2.1) 50 s_15.2.2.2.2.1) 51 s_15.2.2.2.2.2.1) 52 s_15.2.2.2.2.2.2.1) 53 s_15.2.2.2.2.2.2.2.1) c0 k7 f7 k1 f1 k8 f8 k6 o_24 k9 f9 k10 f10 o_33 hqo_33 H.size) (cwV 0 hts gX12_laysSingle_X12_costTried rfl rfl rfl zhd_X12_costTried ⟨Nat.le_of_ble_eq_true rfl, Nat.le_of_ble_eq_true rfl⟩) [0, 7, 1, 8, 6, 9, 10] rfl (of_decide_eq_true rfl) [6, 0, 7, 5, 8, 9] rfl rfl rfl rfl hl.1 rfl (Nat.le_of_ble_eq_true rfl) dX12_laysSingle_110 ⟨Nat.le_of_ble_eq_true rfl, Nat.le_of_ble_eq_true rfl⟩ [some 0, some 2, none, none, none, none, some 4, some 1, some 3, some 5, some 6] (of_decide_eq_true rfl) (of_decide_eq_true rfl) rfl rfl rfl (fun H locs hP hD hS => ?_)
              refine lv_istore (lv' := [(5, .int o_33), (4, .int s_15.2.1), (3, .int s_13.2.1), (2, .int s_15.1), (1, .int o_9), (0, .ref h0)]) hx hb dX12_laysSingle_113 hl (of_decide_eq_true rfl) rfl (fun ls hl => ?_)
              refine lv_aload_n hx hb dX12_laysSingle_115 rfl (lv_at hl 5 rfl) ?_
              refine lv_dup hx hb dX12_laysSingle_116 rfl ?_
              refine va_get (D := (dC, dI)) (ci := 12) (v := .int s_15.2.2.2.2.1) (C := RX12) (T := TX12) (N := 67) hx hb hts zn_X12_laysSingle_X12 hown hK hP 0 rfl rfl 50 (of_decide_eq_true rfl) (hts (.fieldLink RX12 165 "ShortEnoughModel" "singlePass" "I") zw_X12_laysSingle_1269) (fun _ h9 => h9) rfl dX12_laysSingle_117 ?_
              refine lv_iconst (v := 1) hx hb dX12_laysSingle_120 zci_1 ?_
              refine lv_iadd hx hb dX12_laysSingle_121 ?_
              refine va_put (D := (dC, dI)) (ci := 12) (v := .int (s_15.2.2.2.2.1 + 1)) (ty := .int) (C := RX12) (T := TX12) (N := 67) hx hb hts zn_X12_laysSingle_X12 tyX12 tyX12_ok nmX12 hown hK hP hD hS 0 rfl rfl 50 (of_decide_eq_true rfl) (hts (.fieldLink RX12 165 "ShortEnoughModel" "singlePass" "I") zw_X12_laysSingle_1269) (fun _ h9 => h9) rfl (tyX12_ok 50 (of_decide_eq_true rfl)) rfl rfl (Nat.le_of_ble_eq_true rfl) dX12_laysSingle_122 (fun H locs hP hD hS => ?_)
              have hP : va_P (dC, dI) vwCl [(h0, .inr (12, zO a0 (zI (zI (zI (zI (zI (zI (zI (zI b0 30 o_1.1) 33 (-1)) 41 o_28.2.1) 42 o_28.2.2.1) 50 (s_15.2.2.2.2.1 + 1)) 51 s_15.2.2.2.2.2.1) 52 s_15.2.2.2.2.2.2.1) 53 s_15.2.2.2.2.2.2.2.1) c0)), zVi (a0 17) k1 2 f1, zVi (a0 27) k2 28 f2, zVi (a0 25) k3 28 f3, zVi (a0 29) k4 14 o_1.2, zVi (a0 37) k5 14 f5, zVi (a0 39) k6 14 o_24, zVi (a0 24) k7 2 f7, zVi (a0 20) k8 28 f8, zVi (a0 21) k9 28 f9, zVi (a0 16) k10 8 f10, zVi (a0 12) k11 2 f11, zVi (a0 19) k12 28 f12, zVl (a0 31) k13 14 o_28.2.2.2.1, zVl (a0 22) k14 28 f14, zVl (a0 23) k15 28 f15, zVl (a0 32) k16 14 o_28.2.2.2.2.1, zVi (a0 14) k17 8 f17, zVl (a0 40) k18 14 o_28.2.2.2.2.2, zVi (a0 15) k19 8 f19, zVi (a0 26) k20 28 f20] H := hP
              have hD := zDW hD hP rfl
              refine lv_aload_n hx hb dX12_laysSingle_125 rfl (lv_at hl 5 rfl) ?_
              refine lv_dup hx hb dX12_laysSingle_126 rfl ?_
              refine va_get (D := (dC, dI)) (ci := 12) (v := .int s_15.2.2.2.2.2.1) (C := RX12) (T := TX12) (N := 67) hx hb hts zn_X12_laysSingle_X12 hown hK hP 0 rfl rfl 51 (of_decide_eq_true rfl) (hts (.fieldLink RX12 168 "ShortEnoughModel" "singleLess" "I") zw_X12_laysSingle_1270) (fun _ h9 => h9) rfl dX12_laysSingle_127 ?_
              refine lv_iload hx hb dX12_laysSingle_130 (lv_at hl 0 rfl) ?_
              refine lv_iload_n hx hb dX12_laysSingle_132 rfl (lv_at hl 4 rfl) ?_
              obtain ⟨j_37, ej_37, hfn⟩ := zj_g hfn
              have jp_37 : ∀ (s_37 : Int32) (H : Heap) (locs : List Loc) (ls : Array Slot), j_37 s_37 = some o → va_P (dC, dI) vwCl [(h0, .inr (12, zO a0 (zI (zI (zI (zI (zI (zI (zI (zI b0 30 o_1.1) 33 (-1)) 41 o_28.2.1) 42 o_28.2.2.1) 50 (s_15.2.2.2.2.1 + 1)) 51 s_15.2.2.2.2.2.1) 52 s_15.2.2.2.2.2.2.1) 53 s_15.2.2.2.2.2.2.2.1) c0)), zVi (a0 17) k1 2 f1, zVi (a0 27) k2 28 f2, zVi (a0 25) k3 28 f3, zVi (a0 29) k4 14 o_1.2, zVi (a0 37) k5 14 f5, zVi (a0 39) k6 14 o_24, zVi (a0 24) k7 2 f7, zVi (a0 20) k8 28 f8, zVi (a0 21) k9 28 f9, zVi (a0 16) k10 8 f10, zVi (a0 12) k11 2 f11, zVi (a0 19) k12 28 f12, zVl (a0 31) k13 14 o_28.2.2.2.1, zVl (a0 22) k14 28 f14, zVl (a0 23) k15 28 f15, zVl (a0 32) k16 14 o_28.2.2.2.2.1, zVi (a0 14) k17 8 f17, zVl (a0 40) k18 14 o_28.2.2.2.2.2, zVi (a0 15) k19 8 f19, zVi (a0 26) k20 28 f20] H → va_D A [(h0, .inr (12, zO a0 (zI (zI (zI (zI (zI (zI (zI (zI b0 30 o_1.1) 33 (-1)) 41 o_28.2.1) 42 o_28.2.2.1) 50 (s_15.2.2.2.2.1 + 1)) 51 s_15.2.2.2.2.2.1) 52 s_15.2.2.2.2.2.2.1) 53 s_15.2.2.2.2.2.2.2.1) c0)), zVi (a0 17) k1 2 f1, zVi (a0 27) k2 28 f2, zVi (a0 25) k3 28 f3, zVi (a0 29) k4 14 o_1.2, zVi (a0 37) k5 14 f5, zVi (a0 39) k6 14 o_24, zVi (a0 24) k7 2 f7, zVi (a0 20) k8 28 f8, zVi (a0 21) k9 28 f9, zVi (a0 16) k10 8 f10, zVi (a0 12) k11 2 f11, zVi (a0 19) k12 28 f12, zVl (a0 31) k13 14 o_28.2.2.2.1, zVl (a0 22) k14 28 f14, zVl (a0 23) k15 28 f15, zVl (a0 32) k16 14 o_28.2.2.2.2.1, zVi (a0 14) k17 8 f17, zVl (a0 40) k18 14 o_28.2.2.2.2.2, zVi (a0 15) k19 8 f19, zVi (a0 26) k20 28 f20] → va_S A s.heap H locs → lv_has ls 6 [(5, .int o_33), (4, .int s_15.2.1), (3, .int s_13.2.1), (2, .int s_15.1), (1, .int o_9), (0, .ref h0)] → W p l e (headSpec wsX12_laysSingle ({ frames := 5, cells := 0, slots := 0, locals := 134 })).room s m ([.ref h0] : List Value).toArray below meth c H locs 0 0 Q (F0 m 141 ls [.int s_37, .int s_15.2.2.2.2.2.1, .ref h0]) := by
                intro s_37 H locs ls hfn hP hD hS hl
                have hfn := zj_s ej_37 hfn
                refine lv_iadd hx hb dX12_laysSingle_141 ?_
                refine va_put (D := (dC, dI)) (ci := 12) (v := .int (s_15.2.2.2.2.2.1 + s_37)) (ty := .int) (C := RX12) (T := TX12) (N := 67) hx hb hts zn_X12_laysSingle_X12 tyX12 tyX12_ok nmX12 hown hK hP hD hS 0 rfl rfl 51 (of_decide_eq_true rfl) (hts (.fieldLink RX12 168 "ShortEnoughModel" "singleLess" "I") zw_X12_laysSingle_1270) (fun _ h9 => h9) rfl (tyX12_ok 51 (of_decide_eq_true rfl)) rfl rfl (Nat.le_of_ble_eq_true rfl) dX12_laysSingle_142 (fun H locs hP hD hS => ?_)
                have hP : va_P (dC, dI) vwCl [(h0, .inr (12, zO a0 (zI (zI (zI (zI (zI (zI (zI (zI b0 30 o_1.1) 33 (-1)) 41 o_28.2.1) 42 o_28.2.2.1) 50 (s_15.2.2.2.2.1 + 1)) 51 (s_15.2.2.2.2.2.1 + s_37)) 52 s_15.2.2.2.2.2.2.1) 53 s_15.2.2.2.2.2.2.2.1) c0)), zVi (a0 17) k1 2 f1, zVi (a0 27) k2 28 f2, zVi (a0 25) k3 28 f3, zVi (a0 29) k4 14 o_1.2, zVi (a0 37) k5 14 f5, zVi (a0 39) k6 14 o_24, zVi (a0 24) k7 2 f7, zVi (a0 20) k8 28 f8, zVi (a0 21) k9 28 f9, zVi (a0 16) k10 8 f10, zVi (a0 12) k11 2 f11, zVi (a0 19) k12 28 f12, zVl (a0 31) k13 14 o_28.2.2.2.1, zVl (a0 22) k14 28 f14, zVl (a0 23) k15 28 f15, zVl (a0 32) k16 14 o_28.2.2.2.2.1, zVi (a0 14) k17 8 f17, zVl (a0 40) k18 14 o_28.2.2.2.2.2, zVi (a0 15) k19 8 f19, zVi (a0 26) k20 28 f20] H := hP
                have hD := zDW hD hP rfl
                refine lv_iload hx hb dX12_laysSingle_145 (lv_at hl 0 rfl) ?_
                refine lv_iload_n hx hb dX12_laysSingle_147 rfl (lv_at hl 3 rfl) ?_
                refine lv_icmp_lt (tgt := 154) hx hb dX12_laysSingle_148 (of_decide_eq_true rfl) (fun c_38 => ?_) (fun c_38 => ?_)
                · have hfn := (if_pos c_38).symm.trans hfn
                  refine lv_iload hx hb dX12_laysSingle_154 (lv_at hl 0 rfl) ?_
                  refine lv_istore_n (lv' := [(2, .int o_33), (5, .int o_33), (4, .int s_15.2.1), (3, .int s_13.2.1), (1, .int o_9), (0, .ref h0)]) hx hb dX12_laysSingle_156 rfl hl (of_decide_eq_true rfl) rfl (fun ls hl => ?_)
                  refine lv_aload_n hx hb dX12_laysSingle_157 rfl (lv_at hl 5 rfl) ?_
                  refine lv_aload_n hx hb dX12_laysSingle_158 rfl (lv_at hl 5 rfl) ?_
                  refine va_get (D := (dC, dI)) (ci := 12) (v := .ref (a0 29)) (C := RX12) (T := TX12) (N := 67) hx hb hts zn_X12_laysSingle_X12 hown hK hP 0 rfl rfl 29 (of_decide_eq_true rfl) (hts (.fieldLink RX12 100 "ShortEnoughModel" "free" "[I") zw_X12_laysSingle_1276) (fun _ h9 => h9) rfl dX12_laysSingle_159 ?_
                  refine lv_iload_n hx hb dX12_laysSingle_162 rfl (lv_at hl 3 rfl) ?_
                  obtain ⟨h_39, hfn⟩ := zg_s hfn
                  refine va_iald hx hb hK hP 4 3 rfl rfl h_39 dX12_laysSingle_163 ?_
                  refine va_put (D := (dC, dI)) (ci := 12) (v := .int (o_1.2 s_13.2.1.toNatClampNeg)) (ty := .int) (C := RX12) (T := TX12) (N := 67) hx hb hts zn_X12_laysSingle_X12 tyX12 tyX12_ok nmX12 hown hK hP hD hS 0 rfl rfl 52 (of_decide_eq_true rfl) (hts (.fieldLink RX12 171 "ShortEnoughModel" "singleGroup" "I") zw_X12_laysSingle_1271) (fun _ h9 => h9) rfl (tyX12_ok 52 (of_decide_eq_true rfl)) rfl rfl (Nat.le_of_ble_eq_true rfl) dX12_laysSingle_164 (fun H locs hP hD hS => ?_)
                  have hP : va_P (dC, dI) vwCl [(h0, .inr (12, zO a0 (zI (zI (zI (zI (zI (zI (zI (zI b0 30 o_1.1) 33 (-1)) 41 o_28.2.1) 42 o_28.2.2.1) 50 (s_15.2.2.2.2.1 + 1)) 51 (s_15.2.2.2.2.2.1 + s_37)) 52 (o_1.2 s_13.2.1.toNatClampNeg)) 53 s_15.2.2.2.2.2.2.2.1) c0)), zVi (a0 17) k1 2 f1, zVi (a0 27) k2 28 f2, zVi (a0 25) k3 28 f3, zVi (a0 29) k4 14 o_1.2, zVi (a0 37) k5 14 f5, zVi (a0 39) k6 14 o_24, zVi (a0 24) k7 2 f7, zVi (a0 20) k8 28 f8, zVi (a0 21) k9 28 f9, zVi (a0 16) k10 8 f10, zVi (a0 12) k11 2 f11, zVi (a0 19) k12 28 f12, zVl (a0 31) k13 14 o_28.2.2.2.1, zVl (a0 22) k14 28 f14, zVl (a0 23) k15 28 f15, zVl (a0 32) k16 14 o_28.2.2.2.2.1, zVi (a0 14) k17 8 f17, zVl (a0 40) k18 14 o_28.2.2.2.2.2, zVi (a0 15) k19 8 f19, zVi (a0 26) k20 28 f20] H := hP
                  have hD := zDW hD hP rfl
                  refine lv_aload_n hx hb dX12_laysSingle_167 rfl (lv_at hl 5 rfl) ?_
                  refine lv_iload hx hb dX12_laysSingle_168 (lv_at hl 2 rfl) ?_
                  refine va_put (D := (dC, dI)) (ci := 12) (v := .int s_15.2.1) (ty := .int) (C := RX12) (T := TX12) (N := 67) hx hb hts zn_X12_laysSingle_X12 tyX12 tyX12_ok nmX12 hown hK hP hD hS 0 rfl rfl 53 (of_decide_eq_true rfl) (hts (.fieldLink RX12 174 "ShortEnoughModel" "singleFormat" "I") zw_X12_laysSingle_1272) (fun _ h9 => h9) rfl (tyX12_ok 53 (of_decide_eq_true rfl)) rfl rfl (Nat.le_of_ble_eq_true rfl) dX12_laysSingle_170 (fun H locs hP hD hS => ?_)
                  have hP : va_P (dC, dI) vwCl [(h0, .inr (12, zO a0 (zI (zI (zI (zI (zI (zI (zI (zI b0 30 o_1.1) 33 (-1)) 41 o_28.2.1) 42 o_28.2.2.1) 50 (s_15.2.2.2.2.1 + 1)) 51 (s_15.2.2.2.2.2.1 + s_37)) 52 (o_1.2 s_13.2.1.toNatClampNeg)) 53 s_15.2.1) c0)), zVi (a0 17) k1 2 f1, zVi (a0 27) k2 28 f2, zVi (a0 25) k3 28 f3, zVi (a0 29) k4 14 o_1.2, zVi (a0 37) k5 14 f5, zVi (a0 39) k6 14 o_24, zVi (a0 24) k7 2 f7, zVi (a0 20) k8 28 f8, zVi (a0 21) k9 28 f9, zVi (a0 16) k10 8 f10, zVi (a0 12) k11 2 f11, zVi (a0 19) k12 28 f12, zVl (a0 31) k13 14 o_28.2.2.2.1, zVl (a0 22) k14 28 f14, zVl (a0 23) k15 28 f15, zVl (a0 32) k16 14 o_28.2.2.2.2.1, zVi (a0 14) k17 8 f17, zVl (a0 40) k18 14 o_28.2.2.2.2.2, zVi (a0 15) k19 8 f19, zVi (a0 26) k20 28 f20] H := hP
                  have hD := zDW hD hP rfl
                  refine lv_iinc (v := (s_15.2.1 + 1)) (lv' := [(4, .int (s_15.2.1 + 1)), (2, .int o_33), (5, .int o_33), (3, .int s_13.2.1), (1, .int o_9), (0, .ref h0)]) hx hb dX12_laysSingle_173 hl (k := 2) rfl rfl (of_decide_eq_true rfl) rfl (fun ls hl => ?_)
                  refine lv_goto (tgt := 53) hx hb dX12_laysSingle_176 (of_decide_eq_true rfl) ?_
                  exact ih_15 (o_33, (s_15.2.1 + 1), o_28.2.1, o_28.2.2.1, (s_15.2.2.2.2.1 + 1), (s_15.2.2.2.2.2.1 + s_37), (o_1.2 s_13.2.1.toNatClampNeg), s_15.2.1, o_28.2.2.2.1, o_28.2.2.2.2.1, o_24, o_28.2.2.2.2.2) H locs ls hfn hP hD hS (lv_sub hl [0, 3, 1, 4, 5] rfl)
                have hfn := (if_neg c_38).symm.trans hfn
                refine lv_goto (tgt := 173) hx hb dX12_laysSingle_151 (of_decide_eq_true rfl) ?_
                refine lv_iinc (v := (s_15.2.1 + 1)) (lv' := [(4, .int (s_15.2.1 + 1)), (5, .int o_33), (3, .int s_13.2.1), (2, .int s_15.1), (1, .int o_9), (0, .ref h0)]) hx hb dX12_laysSingle_173 hl (k := 1) rfl rfl (of_decide_eq_true rfl) rfl (fun ls hl => ?_)
                refine lv_goto (tgt := 53) hx hb dX12_laysSingle_176 (of_decide_eq_true rfl) ?_
                exact ih_15 (s_15.1, (s_15.2.1 + 1), o_28.2.1, o_28.2.2.1, (s_15.2.2.2.2.1 + 1), (s_15.2.2.2.2.2.1 + s_37), s_15.2.2.2.2.2.2.1, s_15.2.2.2.2.2.2.2.1, o_28.2.2.2.1, o_28.2.2.2.2.1, o_24, o_28.2.2.2.2.2) H locs ls hfn hP hD hS (lv_sub hl [0, 2, 3, 4, 5] rfl)
              refine lv_icmp_ge (tgt := 140) hx hb dX12_laysSingle_133 (of_decide_eq_true rfl) (fun c_40 => ?_) (fun c_40 => ?_)
              · have hfn := (if_pos c_40).symm.trans hfn
                refine lv_iconst (v := 0) hx hb dX12_laysSingle_140 zci_0 ?_
                exact jp_37 0 H locs ls hfn hP hD hS (lv_sub hl [0, 1, 2, 3, 4, 5] rfl)
              have hfn := (if_neg c_40).symm.trans hfn
              refine lv_iconst (v := 1) hx hb dX12_laysSingle_136 zci_1 ?_
              refine lv_goto (tgt := 141) hx hb dX12_laysSingle_137 (of_decide_eq_true rfl) ?_
              exact jp_37 1 H locs ls hfn hP hD hS (lv_sub hl [0, 1, 2, 3, 4, 5] rfl)
            have hfn := (if_pos c_32).symm.trans hfn
            refine lv_goto (tgt := 173) hx hb dX12_laysSingle_106 (of_decide_eq_true rfl) ?_
            refine lv_iinc (v := (s_15.2.1 + 1)) (lv' := [(4, .int (s_15.2.1 + 1)), (3, .int s_13.2.1), (2, .int s_15.1), (1, .int o_9), (0, .ref h0)]) hx hb dX12_laysSingle_173 hl (k := 0) rfl rfl (of_decide_eq_true rfl) rfl (fun ls hl => ?_)
            refine lv_goto (tgt := 53) hx hb dX12_laysSingle_176 (of_decide_eq_true rfl) ?_
            exact ih_15 (s_15.1, (s_15.2.1 + 1), o_28.2.1, o_28.2.2.1, s_15.2.2.2.2.1, s_15.2.2.2.2.2.1, s_15.2.2.2.2.2.2.1, s_15.2.2.2.2.2.2.2.1, o_28.2.2.2.1, o_28.2.2.2.2.1, o_24, o_28.2.2.2.2.2) H locs ls hfn hP hD hS (lv_sub hl [0, 1, 2, 3, 4] rfl)
          have hfn := (if_pos c_19).symm.trans hfn
          refine lv_goto (tgt := 173) hx hb dX12_laysSingle_80 (of_decide_eq_true rfl) ?_
          refine lv_iinc (v := (s_15.2.1 + 1)) (lv' := [(4, .int (s_15.2.1 + 1)), (3, .int s_13.2.1), (2, .int s_15.1), (1, .int o_9), (0, .ref h0)]) hx hb dX12_laysSingle_173 hl (k := 0) rfl rfl (of_decide_eq_true rfl) rfl (fun ls hl => ?_)
          refine lv_goto (tgt := 53) hx hb dX12_laysSingle_176 (of_decide_eq_true rfl) ?_
          exact ih_15 (s_15.1, (s_15.2.1 + 1), s_15.2.2.1, s_15.2.2.2.1, s_15.2.2.2.2.1, s_15.2.2.2.2.2.1, s_15.2.2.2.2.2.2.1, s_15.2.2.2.2.2.2.2.1, s_15.2.2.2.2.2.2.2.2.1, s_15.2.2.2.2.2.2.2.2.2.1, s_15.2.2.2.2.2.2.2.2.2.2.1, s_15.2.2.2.2.2.2.2.2.2.2.2) H locs ls hfn hP hD hS (lv_sub hl [0, 1, 2, 3, 4] rfl)
      exact lp_15 _ (s_13.1, 0, s_13.2.2.1, s_13.2.2.2.1, s_13.2.2.2.2.1, s_13.2.2.2.2.2.1, s_13.2.2.2.2.2.2.1, s_13.2.2.2.2.2.2.2.1, s_13.2.2.2.2.2.2.2.2.1, s_13.2.2.2.2.2.2.2.2.2.1, s_13.2.2.2.2.2.2.2.2.2.2.1, s_13.2.2.2.2.2.2.2.2.2.2.2) H locs ls hfn hP hD hS (lv_sub hl [0, 1, 2, 3, 4] rfl)
  exact lp_13 _ (o_9, 0, (b0 41), (b0 42), 0, 0, (-1), (-1), f13, f16, o_5, f18) H locs ls hfn hP hD hS (lv_sub hl [0, 1, 2, 3] rfl)
theorem zw_X12_single_1277 : Cond.constantLong RX12 490 (3) ∈ wsX12_single := List.mem_of_getElem? (i := 1) (by decide +kernel)
theorem zn_X12_single_X12 : ∀ w ∈ wsX120, w ∈ wsX12_single := fun _ h => List.mem_cons_of_mem _ (List.mem_append_right _ h)
theorem zw_X12_single_1279 : Cond.fieldLink RX12 174 "ShortEnoughModel" "singleFormat" "I" ∈ wsX12_single := List.mem_of_getElem? (i := 5) (by decide +kernel)
theorem zw_X12_single_1280 : Cond.fieldLink RX12 171 "ShortEnoughModel" "singleGroup" "I" ∈ wsX12_single := List.mem_of_getElem? (i := 4) (by decide +kernel)
theorem zw_X12_single_1281 : Cond.fieldLink RX12 168 "ShortEnoughModel" "singleLess" "I" ∈ wsX12_single := List.mem_of_getElem? (i := 3) (by decide +kernel)
theorem zw_X12_single_1282 : Cond.fieldLink RX12 165 "ShortEnoughModel" "singlePass" "I" ∈ wsX12_single := List.mem_of_getElem? (i := 2) (by decide +kernel)
set_option maxHeartbeats 4000000 in
set_option maxRecDepth 100000 in
theorem zf_X12_single (l : Launch) (dC : Nat → ClassId) (dI : Nat → Nat → Nat) (h0 : Nat) (p1 : Int32) (a0 : Nat → Nat) (b0 : Nat → Int32) (c0 : Nat → Int64) (k1 : Nat) (f1 : Nat → Int32) (k2 : Nat) (f2 : Nat → Int32) (k3 : Nat) (f3 : Nat → Int32) (k4 : Nat) (f4 : Nat → Int32) (k5 : Nat) (f5 : Nat → Int32) (k6 : Nat) (f6 : Nat → Int32) (k7 : Nat) (f7 : Nat → Int32) (k8 : Nat) (f8 : Nat → Int32) (k9 : Nat) (f9 : Nat → Int32) (k10 : Nat) (f10 : Nat → Int32) (k11 : Nat) (f11 : Nat → Int32) (k12 : Nat) (f12 : Nat → Int32) (k13 : Nat) (f13 : Nat → Int64) (k14 : Nat) (f14 : Nat → Int64) (k15 : Nat) (f15 : Nat → Int64) (k16 : Nat) (f16 : Nat → Int64) (k17 : Nat) (f17 : Nat → Int32) (k18 : Nat) (f18 : Nat → Int64) (k19 : Nat) (f19 : Nat → Int32) (k20 : Nat) (f20 : Nat → Int32) (o : Int32 × Int32 × Int32 × Int32 × Int32 × Int32 × Int32 × Int32 × Int32 × (Nat → Int32) × (Nat → Int32) × (Nat → Int64) × (Nat → Int64) × (Nat → Int64)) (hfn : fn_X12_single p1 (b0 30) (b0 33) (c0 34) (b0 38) (b0 41) (b0 42) (b0 50) (b0 51) (b0 52) (b0 53) f1 f2 f3 f4 f5 f6 f7 f8 f9 f10 f11 f12 f13 f14 f15 f16 f17 f18 f19 f20 = some o) (sz : Nat) : zMi l yX12_single wsX12_single ({ frames := 6, cells := 0, slots := 0, locals := 159 }) (dC, dI) vwCl [.ref h0, .int p1] [(h0, .inr (12, zO a0 b0 c0)), zVi (a0 17) k1 2 f1, zVi (a0 27) k2 28 f2, zVi (a0 25) k3 28 f3, zVi (a0 29) k4 14 f4, zVi (a0 37) k5 14 f5, zVi (a0 39) k6 14 f6, zVi (a0 24) k7 2 f7, zVi (a0 20) k8 28 f8, zVi (a0 21) k9 28 f9, zVi (a0 16) k10 8 f10, zVi (a0 12) k11 2 f11, zVi (a0 19) k12 28 f12, zVl (a0 31) k13 14 f13, zVl (a0 22) k14 28 f14, zVl (a0 23) k15 28 f15, zVl (a0 32) k16 14 f16, zVi (a0 14) k17 8 f17, zVl (a0 40) k18 14 f18, zVi (a0 15) k19 8 f19, zVi (a0 26) k20 28 f20] [(k1, .int), (k2, .int), (k3, .int), (k4, .int), (k5, .int), (k6, .int), (k7, .int), (k8, .int), (k9, .int), (k10, .int), (k11, .int), (k12, .int), (k13, .long), (k14, .long), (k15, .long), (k16, .long), (k17, .int), (k18, .long), (k19, .int), (k20, .int)] (fun r _ => r = o.1) [(h0, .inr (12, zO a0 (zI (zI (zI (zI (zI (zI (zI (zI b0 30 o.2.1) 33 o.2.2.1) 41 o.2.2.2.1) 42 o.2.2.2.2.1) 50 o.2.2.2.2.2.1) 51 o.2.2.2.2.2.2.1) 52 o.2.2.2.2.2.2.2.1) 53 o.2.2.2.2.2.2.2.2.1) c0)), zVi (a0 17) k1 2 f1, zVi (a0 27) k2 28 f2, zVi (a0 25) k3 28 f3, zVi (a0 29) k4 14 o.2.2.2.2.2.2.2.2.2.1, zVi (a0 37) k5 14 f5, zVi (a0 39) k6 14 o.2.2.2.2.2.2.2.2.2.2.1, zVi (a0 24) k7 2 f7, zVi (a0 20) k8 28 f8, zVi (a0 21) k9 28 f9, zVi (a0 16) k10 8 f10, zVi (a0 12) k11 2 f11, zVi (a0 19) k12 28 f12, zVl (a0 31) k13 14 o.2.2.2.2.2.2.2.2.2.2.2.1, zVl (a0 22) k14 28 f14, zVl (a0 23) k15 28 f15, zVl (a0 32) k16 14 o.2.2.2.2.2.2.2.2.2.2.2.2.1, zVi (a0 14) k17 8 f17, zVl (a0 40) k18 14 o.2.2.2.2.2.2.2.2.2.2.2.2.2, zVi (a0 15) k19 8 f19, zVi (a0 26) k20 28 f20] [(k1, .int), (k2, .int), (k3, .int), (k4, .int), (k5, .int), (k6, .int), (k7, .int), (k8, .int), (k9, .int), (k10, .int), (k11, .int), (k12, .int), (k13, .long), (k14, .long), (k15, .long), (k16, .long), (k17, .int), (k18, .long), (k19, .int), (k20, .int)] sz := by
  refine zgoi (cc := cX12_single) (maxL := 2) (ret := (some .int)) (C0 := RX12) (lv0 := [(0, .ref h0), (1, .int p1)]) zpl_X12 rfl rfl rfl (Nat.le_of_ble_eq_true rfl) ?_
  intro p e s m below meth c A ls Q hx hb hr hts hown hlocks hml hP hK hD hA hS hl hQ
  unfold fn_X12_single at hfn
  refine lv_aload_n hx hb dX12_single_0 rfl (lv_at hl 0 rfl) ?_
  obtain ⟨o_1, hqo_1, hfn⟩ := zb_s hfn
  refine zcVb (ci := 12) (rest := []) (pc' := 4) (ws' := [(h0, .inr (12, zO a0 b0 c0)), zVi (a0 17) k1 2 f1, zVi (a0 27) k2 28 f2, zVi (a0 25) k3 28 f3, zVi (a0 29) k4 14 f4, zVi (a0 37) k5 14 f5, zVi (a0 39) k6 14 f6, zVi (a0 24) k7 2 f7, zVi (a0 20) k8 28 f8, zVi (a0 21) k9 28 f9, zVi (a0 16) k10 8 f10, zVi (a0 12) k11 2 f11, zVi (a0 19) k12 28 f12, zVl (a0 31) k13 14 f13, zVl (a0 22) k14 28 f14, zVl (a0 23) k15 28 f15, zVl (a0 32) k16 14 f16, zVi (a0 14) k17 8 f17, zVl (a0 40) k18 14 f18, zVi (a0 15) k19 8 f19, zVi (a0 26) k20 28 f20]) hP hK hD hS hA ⟨hx, hb, hml, hown, hts⟩ (zf_X12_isThere l dC dI h0 a0 b0 c0 k1 f1 o_1 hqo_1 s.heap.size) (cwV 0 hts gX12_single_X12_isThere rfl rfl rfl zhd_X12_isThere ⟨Nat.le_of_ble_eq_true rfl, Nat.le_of_ble_eq_true rfl⟩) [0, 1] rfl (of_decide_eq_true rfl) [0] rfl rfl rfl rfl hl.1 rfl (Nat.le_of_ble_eq_true rfl) dX12_single_1 ⟨Nat.le_of_ble_eq_true rfl, Nat.le_of_ble_eq_true rfl⟩ [some 0, some 1] (of_decide_eq_true rfl) (of_decide_eq_true rfl) rfl rfl rfl (fun H locs hw_4n hP hD hS => ?_)
  refine lv_if_eq (tgt := 19) hx hb dX12_single_4 (of_decide_eq_true rfl) (fun c_5 => ?_) (fun c_5 => ?_)
  · have hfn := (if_pos c_5).symm.trans hfn
    refine lv_iconst (v := (-1)) hx hb dX12_single_19 zci_m1 ?_
    have ho := Option.some.inj hfn
    subst ho
    exact zri hx hb hr hK hP hD hS hQ rfl hlocks dX12_single_20
  have hfn := (if_neg c_5).symm.trans hfn
  refine lv_iload_n hx hb dX12_single_7 rfl (lv_at hl 1 rfl) ?_
  refine lv_i2l (v := p1.toInt64) hx hb dX12_single_8 rfl ?_
  refine lv_lconst (v := 0) hx hb dX12_single_9 (by decide +kernel) ?_
  refine lv_ldc2 (v := 3) hx hb hown (hts (.constantLong RX12 490 (3)) zw_X12_single_1277) dX12_single_10 ?_
  obtain ⟨o_6, hqo_6, hfn⟩ := zb_s hfn
  refine zcSb (rest := []) (pc' := 16) (ws' := [(h0, .inr (12, zO a0 b0 c0)), zVi (a0 17) k1 2 f1, zVi (a0 27) k2 28 f2, zVi (a0 25) k3 28 f3, zVi (a0 29) k4 14 f4, zVi (a0 37) k5 14 f5, zVi (a0 39) k6 14 f6, zVi (a0 24) k7 2 f7, zVi (a0 20) k8 28 f8, zVi (a0 21) k9 28 f9, zVi (a0 16) k10 8 f10, zVi (a0 12) k11 2 f11, zVi (a0 19) k12 28 f12, zVl (a0 31) k13 14 f13, zVl (a0 22) k14 28 f14, zVl (a0 23) k15 28 f15, zVl (a0 32) k16 14 f16, zVi (a0 14) k17 8 f17, zVl (a0 40) k18 14 f18, zVi (a0 15) k19 8 f19, zVi (a0 26) k20 28 f20]) hP hK hD hS hA ⟨hx, hb, hml, hown, hts⟩ (zf_X12_isIn l dC dI p1.toInt64 (0 : Int64) (3 : Int64) o_6 hqo_6 H.size) (va_cwS 3 hts gX12_single_X12_isIn rfl rfl rfl zhd_X12_isIn.2 ⟨Nat.le_of_ble_eq_true rfl, Nat.le_of_ble_eq_true rfl⟩) [] rfl (of_decide_eq_true rfl) [] rfl rfl hl.1 rfl (Nat.le_of_ble_eq_true rfl) dX12_single_13 ⟨Nat.le_of_ble_eq_true rfl, Nat.le_of_ble_eq_true rfl⟩ [] (of_decide_eq_true rfl) (of_decide_eq_true rfl) rfl rfl rfl (fun H locs hw_9n hP hD hS => ?_)
  refine lv_if_ne (tgt := 21) hx hb dX12_single_16 (of_decide_eq_true rfl) (fun c_10 => ?_) (fun c_10 => ?_)
  · have hfn := (if_neg c_10).symm.trans hfn
    refine lv_aload_n hx hb dX12_single_21 rfl (lv_at hl 0 rfl) ?_
    obtain ⟨o_11, hqo_11, hfn⟩ := zb_s hfn
    refine zcVv (ci := 12) (rest := []) (pc' := 25) (ws' := [(h0, .inr (12, zO a0 (zI (zI (zI (zI (zI (zI (zI (zI b0 30 o_11.1) 33 o_11.2.1) 41 o_11.2.2.1) 42 o_11.2.2.2.1) 50 o_11.2.2.2.2.1) 51 o_11.2.2.2.2.2.1) 52 o_11.2.2.2.2.2.2.1) 53 o_11.2.2.2.2.2.2.2.1) c0)), zVi (a0 17) k1 2 f1, zVi (a0 27) k2 28 f2, zVi (a0 25) k3 28 f3, zVi (a0 29) k4 14 o_11.2.2.2.2.2.2.2.2.1, zVi (a0 37) k5 14 f5, zVi (a0 39) k6 14 o_11.2.2.2.2.2.2.2.2.2.1, zVi (a0 24) k7 2 f7, zVi (a0 20) k8 28 f8, zVi (a0 21) k9 28 f9, zVi (a0 16) k10 8 f10, zVi (a0 12) k11 2 f11, zVi (a0 19) k12 28 f12, zVl (a0 31) k13 14 o_11.2.2.2.2.2.2.2.2.2.2.1, zVl (a0 22) k14 28 f14, zVl (a0 23) k15 28 f15, zVl (a0 32) k16 14 o_11.2.2.2.2.2.2.2.2.2.2.2.1, zVi (a0 14) k17 8 f17, zVl (a0 40) k18 14 o_11.2.2.2.2.2.2.2.2.2.2.2.2, zVi (a0 15) k19 8 f19, zVi (a0 26) k20 28 f20]) hP hK hD hS hA ⟨hx, hb, hml, hown, hts⟩ (zf_X12_laysSingle l dC dI h0 a0 b0 c0 k1 f1 k2 f2 k3 f3 k4 f4 k5 f5 k6 f6 k7 f7 k8 f8 k9 f9 k10 f10 k11 f11 k12 f12 k13 f13 k14 f14 k15 f15 k16 f16 k17 f17 k18 f18 k19 f19 k20 f20 o_11 hqo_11 H.size) (cwV 0 hts gX12_single_X12_laysSingle rfl rfl rfl zhd_X12_laysSingle ⟨Nat.le_of_ble_eq_true rfl, Nat.le_of_ble_eq_true rfl⟩) [0, 1, 2, 3, 4, 5, 6, 7, 8, 9, 10, 11, 12, 13, 14, 15, 16, 17, 18, 19, 20] rfl (of_decide_eq_true rfl) [0, 1, 2, 3, 4, 5, 6, 7, 8, 9, 10, 11, 12, 13, 14, 15, 16, 17, 18, 19] rfl rfl rfl rfl hl.1 rfl (Nat.le_of_ble_eq_true rfl) dX12_single_22 ⟨Nat.le_of_ble_eq_true rfl, Nat.le_of_ble_eq_true rfl⟩ [some 0, some 1, some 2, some 3, some 4, some 5, some 6, some 7, some 8, some 9, some 10, some 11, some 12, some 13, some 14, some 15, some 16, some 17, some 18, some 19, some 20] (of_decide_eq_true rfl) (of_decide_eq_true rfl) rfl rfl rfl (fun H locs hP hD hS => ?_)
    refine lv_iload_n hx hb dX12_single_25 rfl (lv_at hl 1 rfl) ?_
    refine lv_if_ne (tgt := 36) hx hb dX12_single_26 (of_decide_eq_true rfl) (fun c_15 => ?_) (fun c_15 => ?_)
    · have hfn := (if_neg c_15).symm.trans hfn
      refine lv_iload_n hx hb dX12_single_36 rfl (lv_at hl 1 rfl) ?_
      refine lv_iconst (v := 1) hx hb dX12_single_37 zci_1 ?_
      refine lv_icmp_ne (tgt := 48) hx hb dX12_single_38 (of_decide_eq_true rfl) (fun c_16 => ?_) (fun c_16 => ?_)
      · have hfn := (if_neg c_16).symm.trans hfn
        refine lv_iload_n hx hb dX12_single_48 rfl (lv_at hl 1 rfl) ?_
        refine lv_iconst (v := 2) hx hb dX12_single_49 zci_2 ?_
        refine lv_icmp_ne (tgt := 60) hx hb dX12_single_50 (of_decide_eq_true rfl) (fun c_17 => ?_) (fun c_17 => ?_)
        · have hfn := (if_neg c_17).symm.trans hfn
          refine lv_aload_n hx hb dX12_single_60 rfl (lv_at hl 0 rfl) ?_
          refine va_get (D := (dC, dI)) (ci := 12) (v := .int o_11.2.2.2.2.2.2.2.1) (C := RX12) (T := TX12) (N := 67) hx hb hts zn_X12_single_X12 hown hK hP 0 rfl rfl 53 (of_decide_eq_true rfl) (hts (.fieldLink RX12 174 "ShortEnoughModel" "singleFormat" "I") zw_X12_single_1279) (fun _ h9 => h9) rfl dX12_single_61 ?_
          have ho := Option.some.inj hfn
          subst ho
          exact zri hx hb hr hK hP hD hS hQ rfl hlocks dX12_single_64
        have hfn := (if_pos c_17).symm.trans hfn
        refine lv_aload_n hx hb dX12_single_53 rfl (lv_at hl 0 rfl) ?_
        refine va_get (D := (dC, dI)) (ci := 12) (v := .int o_11.2.2.2.2.2.2.1) (C := RX12) (T := TX12) (N := 67) hx hb hts zn_X12_single_X12 hown hK hP 0 rfl rfl 52 (of_decide_eq_true rfl) (hts (.fieldLink RX12 171 "ShortEnoughModel" "singleGroup" "I") zw_X12_single_1280) (fun _ h9 => h9) rfl dX12_single_54 ?_
        refine lv_goto (tgt := 64) hx hb dX12_single_57 (of_decide_eq_true rfl) ?_
        have ho := Option.some.inj hfn
        subst ho
        exact zri hx hb hr hK hP hD hS hQ rfl hlocks dX12_single_64
      have hfn := (if_pos c_16).symm.trans hfn
      refine lv_aload_n hx hb dX12_single_41 rfl (lv_at hl 0 rfl) ?_
      refine va_get (D := (dC, dI)) (ci := 12) (v := .int o_11.2.2.2.2.2.1) (C := RX12) (T := TX12) (N := 67) hx hb hts zn_X12_single_X12 hown hK hP 0 rfl rfl 51 (of_decide_eq_true rfl) (hts (.fieldLink RX12 168 "ShortEnoughModel" "singleLess" "I") zw_X12_single_1281) (fun _ h9 => h9) rfl dX12_single_42 ?_
      refine lv_goto (tgt := 64) hx hb dX12_single_45 (of_decide_eq_true rfl) ?_
      have ho := Option.some.inj hfn
      subst ho
      exact zri hx hb hr hK hP hD hS hQ rfl hlocks dX12_single_64
    have hfn := (if_pos c_15).symm.trans hfn
    refine lv_aload_n hx hb dX12_single_29 rfl (lv_at hl 0 rfl) ?_
    refine va_get (D := (dC, dI)) (ci := 12) (v := .int o_11.2.2.2.2.1) (C := RX12) (T := TX12) (N := 67) hx hb hts zn_X12_single_X12 hown hK hP 0 rfl rfl 50 (of_decide_eq_true rfl) (hts (.fieldLink RX12 165 "ShortEnoughModel" "singlePass" "I") zw_X12_single_1282) (fun _ h9 => h9) rfl dX12_single_30 ?_
    refine lv_goto (tgt := 64) hx hb dX12_single_33 (of_decide_eq_true rfl) ?_
    have ho := Option.some.inj hfn
    subst ho
    exact zri hx hb hr hK hP hD hS hQ rfl hlocks dX12_single_64
  have hfn := (if_pos c_10).symm.trans hfn
  refine lv_iconst (v := (-1)) hx hb dX12_single_19 zci_m1 ?_
  have ho := Option.some.inj hfn
  subst ho
  exact zri hx hb hr hK hP hD hS hQ rfl hlocks dX12_single_20
theorem zn_X12_takesTried_X12 : ∀ w ∈ wsX120, w ∈ wsX12_takesTried := fun _ h => List.mem_cons_of_mem _ (List.mem_append_right _ h)
theorem zw_X12_takesTried_1284 : Cond.fieldLink RX12 62 "ShortEnoughModel" "numbers" "[I" ∈ wsX12_takesTried := List.mem_of_getElem? (i := 1) (by decide +kernel)
theorem zw_X12_takesTried_1285 : Cond.fieldLink RX12 125 "ShortEnoughModel" "hand" "[I" ∈ wsX12_takesTried := List.mem_of_getElem? (i := 2) (by decide +kernel)
theorem zw_X12_takesTried_1286 : Cond.fieldLink RX12 132 "ShortEnoughModel" "tried" "[I" ∈ wsX12_takesTried := List.mem_of_getElem? (i := 3) (by decide +kernel)
set_option maxHeartbeats 4000000 in
set_option maxRecDepth 100000 in
theorem zf_X12_takesTried (l : Launch) (dC : Nat → ClassId) (dI : Nat → Nat → Nat) (h0 : Nat) (a0 : Nat → Nat) (b0 : Nat → Int32) (c0 : Nat → Int64) (k1 : Nat) (f1 : Nat → Int32) (k2 : Nat) (f2 : Nat → Int32) (k3 : Nat) (f3 : Nat → Int32) (o : (Nat → Int32)) (hfn : fn_X12_takesTried f1 f2 f3 = some o) (sz : Nat) : zMv l yX12_takesTried wsX12_takesTried ({ frames := 0, cells := 0, slots := 0, locals := 0 }) (dC, dI) vwCl [.ref h0] [(h0, .inr (12, zO a0 b0 c0)), zVi (a0 17) k1 2 f1, zVi (a0 39) k2 14 f2, zVi (a0 37) k3 14 f3] [(k1, .int), (k2, .int), (k3, .int)] (fun _ => True) [(h0, .inr (12, zO a0 b0 c0)), zVi (a0 17) k1 2 f1, zVi (a0 39) k2 14 f2, zVi (a0 37) k3 14 o] [(k1, .int), (k2, .int), (k3, .int)] sz := by
  refine zgov (cc := cX12_takesTried) (maxL := 2) (ret := none) (C0 := RX12) (lv0 := [(0, .ref h0)]) zpl_X12 rfl rfl rfl (Nat.le_of_ble_eq_true rfl) ?_
  intro p e s m below meth c A ls Q hx hb hr hts hown hlocks hml hP hK hD hA hS hl hQ
  unfold fn_X12_takesTried at hfn
  refine lv_iconst (v := 0) hx hb dX12_takesTried_0 zci_0 ?_
  refine lv_istore_n (lv' := [(1, .int 0), (0, .ref h0)]) hx hb dX12_takesTried_1 rfl hl (of_decide_eq_true rfl) rfl (fun ls hl => ?_)
  obtain ⟨bd_1, ebd_1, hfn⟩ := zl_g hfn
  have lp_1 : ∀ (n : Nat) (s_1 : Int32 × (Nat → Int32)) (H : Heap) (locs : List Loc) (ls : Array Slot), zl bd_1 n s_1 = some o → va_P (dC, dI) vwCl [(h0, .inr (12, zO a0 b0 c0)), zVi (a0 17) k1 2 f1, zVi (a0 39) k2 14 f2, zVi (a0 37) k3 14 s_1.2] H → va_D A [(h0, .inr (12, zO a0 b0 c0)), zVi (a0 17) k1 2 f1, zVi (a0 39) k2 14 f2, zVi (a0 37) k3 14 s_1.2] → va_S A s.heap H locs → lv_has ls 2 [(1, .int s_1.1), (0, .ref h0)] → W p l e (headSpec wsX12_takesTried ({ frames := 0, cells := 0, slots := 0, locals := 0 })).room s m ([.ref h0] : List Value).toArray below meth c H locs 0 0 Q (F0 m 2 ls []) := by
    intro n
    induction n with
    | zero => exact fun _ _ _ _ hfn => (zl_0 hfn).elim
    | succ n ih_1 =>
      intro s_1 H locs ls hfn hP hD hS hl
      have hfn := zl_s ebd_1 hfn
      refine lv_iload_n hx hb dX12_takesTried_2 rfl (lv_at hl 0 rfl) ?_
      refine lv_aload_n hx hb dX12_takesTried_3 rfl (lv_at hl 1 rfl) ?_
      refine va_get (D := (dC, dI)) (ci := 12) (v := .ref (a0 17)) (C := RX12) (T := TX12) (N := 67) hx hb hts zn_X12_takesTried_X12 hown hK hP 0 rfl rfl 17 (of_decide_eq_true rfl) (hts (.fieldLink RX12 62 "ShortEnoughModel" "numbers" "[I") zw_X12_takesTried_1284) (fun _ h9 => h9) rfl dX12_takesTried_4 ?_
      refine lv_iconst (v := 0) hx hb dX12_takesTried_7 zci_0 ?_
      refine va_iald hx hb hK hP 1 0 rfl rfl (zv_in (by decide +kernel)) dX12_takesTried_8 ?_
      refine lv_icmp_ge (tgt := 30) hx hb dX12_takesTried_9 (of_decide_eq_true rfl) (fun c_2 => ?_) (fun c_2 => ?_)
      · have hfn := (if_pos c_2).symm.trans hfn
        have ho := Option.some.inj hfn
        subst ho
        exact zrv hx hb hr hK hP hD hS hQ trivial hlocks dX12_takesTried_30
      have hfn := (if_neg c_2).symm.trans hfn
      refine lv_aload_n hx hb dX12_takesTried_12 rfl (lv_at hl 1 rfl) ?_
      refine va_get (D := (dC, dI)) (ci := 12) (v := .ref (a0 37)) (C := RX12) (T := TX12) (N := 67) hx hb hts zn_X12_takesTried_X12 hown hK hP 0 rfl rfl 37 (of_decide_eq_true rfl) (hts (.fieldLink RX12 125 "ShortEnoughModel" "hand" "[I") zw_X12_takesTried_1285) (fun _ h9 => h9) rfl dX12_takesTried_13 ?_
      refine lv_iload_n hx hb dX12_takesTried_16 rfl (lv_at hl 0 rfl) ?_
      refine lv_aload_n hx hb dX12_takesTried_17 rfl (lv_at hl 1 rfl) ?_
      refine va_get (D := (dC, dI)) (ci := 12) (v := .ref (a0 39)) (C := RX12) (T := TX12) (N := 67) hx hb hts zn_X12_takesTried_X12 hown hK hP 0 rfl rfl 39 (of_decide_eq_true rfl) (hts (.fieldLink RX12 132 "ShortEnoughModel" "tried" "[I") zw_X12_takesTried_1286) (fun _ h9 => h9) rfl dX12_takesTried_18 ?_
      refine lv_iload_n hx hb dX12_takesTried_21 rfl (lv_at hl 0 rfl) ?_
      obtain ⟨h_3, hfn⟩ := zg_s hfn
      refine va_iald hx hb hK hP 2 1 rfl rfl h_3 dX12_takesTried_22 ?_
      refine va_iast hx hb hK hP hD hS 3 2 rfl rfl h_3 dX12_takesTried_23 (fun H locs hP hD hS => ?_)
      have hP : va_P (dC, dI) vwCl [(h0, .inr (12, zO a0 b0 c0)), zVi (a0 17) k1 2 f1, zVi (a0 39) k2 14 f2, zVi (a0 37) k3 14 (upd s_1.2 s_1.1.toNatClampNeg (f2 s_1.1.toNatClampNeg))] H := hP
      have hD := zDW hD hP rfl
      refine lv_iinc (v := (s_1.1 + 1)) (lv' := [(1, .int (s_1.1 + 1)), (0, .ref h0)]) hx hb dX12_takesTried_24 hl (k := 0) rfl rfl (of_decide_eq_true rfl) rfl (fun ls hl => ?_)
      refine lv_goto (tgt := 2) hx hb dX12_takesTried_27 (of_decide_eq_true rfl) ?_
      exact ih_1 ((s_1.1 + 1), (upd s_1.2 s_1.1.toNatClampNeg (f2 s_1.1.toNatClampNeg))) H locs ls hfn hP hD hS (lv_sub hl [0, 1] rfl)
  exact lp_1 _ (0, f3) s.heap [] ls hfn hP hD hS (lv_sub hl [0, 1] rfl)
theorem zn_X12_canTake_X12 : ∀ w ∈ wsX120, w ∈ wsX12_canTake := fun _ h => List.mem_cons_of_mem _ (List.mem_append_right _ h)
theorem zw_X12_canTake_1288 : Cond.fieldLink RX12 171 "ShortEnoughModel" "singleGroup" "I" ∈ wsX12_canTake := List.mem_of_getElem? (i := 4) (by decide +kernel)
theorem zw_X12_canTake_1289 : Cond.fieldLink RX12 174 "ShortEnoughModel" "singleFormat" "I" ∈ wsX12_canTake := List.mem_of_getElem? (i := 5) (by decide +kernel)
theorem zw_X12_canTake_1290 : Cond.fieldLink RX12 62 "ShortEnoughModel" "numbers" "[I" ∈ wsX12_canTake := List.mem_of_getElem? (i := 1) (by decide +kernel)
theorem zw_X12_canTake_1291 : Cond.fieldLink RX12 132 "ShortEnoughModel" "tried" "[I" ∈ wsX12_canTake := List.mem_of_getElem? (i := 2) (by decide +kernel)
theorem zw_X12_canTake_1292 : Cond.fieldLink RX12 144 "ShortEnoughModel" "soFar" "[I" ∈ wsX12_canTake := List.mem_of_getElem? (i := 3) (by decide +kernel)
set_option maxHeartbeats 4000000 in
set_option maxRecDepth 100000 in
theorem zf_X12_canTake (l : Launch) (dC : Nat → ClassId) (dI : Nat → Nat → Nat) (h0 : Nat) (p1 : Int32) (a0 : Nat → Nat) (b0 : Nat → Int32) (c0 : Nat → Int64) (k1 : Nat) (f1 : Nat → Int32) (k2 : Nat) (f2 : Nat → Int32) (k3 : Nat) (f3 : Nat → Int32) (k4 : Nat) (f4 : Nat → Int32) (k5 : Nat) (f5 : Nat → Int32) (k6 : Nat) (f6 : Nat → Int32) (k7 : Nat) (f7 : Nat → Int32) (k8 : Nat) (f8 : Nat → Int32) (k9 : Nat) (f9 : Nat → Int32) (k10 : Nat) (f10 : Nat → Int32) (k11 : Nat) (f11 : Nat → Int32) (k12 : Nat) (f12 : Nat → Int32) (k13 : Nat) (f13 : Nat → Int64) (k14 : Nat) (f14 : Nat → Int64) (k15 : Nat) (f15 : Nat → Int64) (k16 : Nat) (f16 : Nat → Int64) (k17 : Nat) (f17 : Nat → Int32) (k18 : Nat) (f18 : Nat → Int64) (k19 : Nat) (f19 : Nat → Int32) (k20 : Nat) (f20 : Nat → Int32) (k21 : Nat) (f21 : Nat → Int32) (k22 : Nat) (f22 : Nat → Int32) (k23 : Nat) (f23 : Nat → Int32) (k24 : Nat) (f24 : Nat → Int32) (k25 : Nat) (f25 : Nat → Int32) (o : Int32 × Int32 × Int32 × Int32 × Int32 × Int32 × Int32 × Int32 × Int32 × Int32 × Int32 × (Nat → Int32) × (Nat → Int32) × (Nat → Int64) × (Nat → Int64) × (Nat → Int64) × (Nat → Int32) × (Nat → Int32) × (Nat → Int32) × (Nat → Int32) × (Nat → Int32)) (hfn : fn_X12_canTake p1 (b0 30) (b0 33) (c0 34) (b0 38) (b0 41) (b0 42) (b0 44) (b0 45) (b0 50) (b0 51) (b0 52) (b0 53) f1 f2 f3 f4 f5 f6 f7 f8 f9 f10 f11 f12 f13 f14 f15 f16 f17 f18 f19 f20 f21 f22 f23 f24 f25 = some o) (sz : Nat) : zMi l yX12_canTake wsX12_canTake ({ frames := 8, cells := 0, slots := 0, locals := 206 }) (dC, dI) vwCl [.ref h0, .int p1] [(h0, .inr (12, zO a0 b0 c0)), zVi (a0 17) k1 2 f1, zVi (a0 27) k2 28 f2, zVi (a0 25) k3 28 f3, zVi (a0 29) k4 14 f4, zVi (a0 37) k5 14 f5, zVi (a0 39) k6 14 f6, zVi (a0 24) k7 2 f7, zVi (a0 20) k8 28 f8, zVi (a0 21) k9 28 f9, zVi (a0 16) k10 8 f10, zVi (a0 12) k11 2 f11, zVi (a0 19) k12 28 f12, zVl (a0 31) k13 14 f13, zVl (a0 22) k14 28 f14, zVl (a0 23) k15 28 f15, zVl (a0 32) k16 14 f16, zVi (a0 14) k17 8 f17, zVl (a0 40) k18 14 f18, zVi (a0 15) k19 8 f19, zVi (a0 26) k20 28 f20, zVi (a0 46) k21 14 f21, zVi (a0 43) k22 14 f22, zVi (a0 47) k23 14 f23, zVi (a0 48) k24 64 f24, zVi (a0 49) k25 64 f25] [(k1, .int), (k2, .int), (k3, .int), (k4, .int), (k5, .int), (k6, .int), (k7, .int), (k8, .int), (k9, .int), (k10, .int), (k11, .int), (k12, .int), (k13, .long), (k14, .long), (k15, .long), (k16, .long), (k17, .int), (k18, .long), (k19, .int), (k20, .int), (k21, .boolean), (k22, .int), (k23, .int), (k24, .int), (k25, .int)] (fun r _ => r = o.1 ∧ narrow .boolean (.int o.1) = .int o.1) [(h0, .inr (12, zO a0 (zI (zI (zI (zI (zI (zI (zI (zI (zI (zI b0 30 o.2.1) 33 o.2.2.1) 41 o.2.2.2.1) 42 o.2.2.2.2.1) 44 o.2.2.2.2.2.1) 45 o.2.2.2.2.2.2.1) 50 o.2.2.2.2.2.2.2.1) 51 o.2.2.2.2.2.2.2.2.1) 52 o.2.2.2.2.2.2.2.2.2.1) 53 o.2.2.2.2.2.2.2.2.2.2.1) c0)), zVi (a0 17) k1 2 f1, zVi (a0 27) k2 28 f2, zVi (a0 25) k3 28 f3, zVi (a0 29) k4 14 o.2.2.2.2.2.2.2.2.2.2.2.1, zVi (a0 37) k5 14 f5, zVi (a0 39) k6 14 o.2.2.2.2.2.2.2.2.2.2.2.2.1, zVi (a0 24) k7 2 f7, zVi (a0 20) k8 28 f8, zVi (a0 21) k9 28 f9, zVi (a0 16) k10 8 f10, zVi (a0 12) k11 2 f11, zVi (a0 19) k12 28 f12, zVl (a0 31) k13 14 o.2.2.2.2.2.2.2.2.2.2.2.2.2.1, zVl (a0 22) k14 28 f14, zVl (a0 23) k15 28 f15, zVl (a0 32) k16 14 o.2.2.2.2.2.2.2.2.2.2.2.2.2.2.1, zVi (a0 14) k17 8 f17, zVl (a0 40) k18 14 o.2.2.2.2.2.2.2.2.2.2.2.2.2.2.2.1, zVi (a0 15) k19 8 f19, zVi (a0 26) k20 28 f20, zVi (a0 46) k21 14 o.2.2.2.2.2.2.2.2.2.2.2.2.2.2.2.2.1, zVi (a0 43) k22 14 o.2.2.2.2.2.2.2.2.2.2.2.2.2.2.2.2.2.1, zVi (a0 47) k23 14 o.2.2.2.2.2.2.2.2.2.2.2.2.2.2.2.2.2.2.1, zVi (a0 48) k24 64 o.2.2.2.2.2.2.2.2.2.2.2.2.2.2.2.2.2.2.2.1, zVi (a0 49) k25 64 o.2.2.2.2.2.2.2.2.2.2.2.2.2.2.2.2.2.2.2.2] [(k1, .int), (k2, .int), (k3, .int), (k4, .int), (k5, .int), (k6, .int), (k7, .int), (k8, .int), (k9, .int), (k10, .int), (k11, .int), (k12, .int), (k13, .long), (k14, .long), (k15, .long), (k16, .long), (k17, .int), (k18, .long), (k19, .int), (k20, .int), (k21, .boolean), (k22, .int), (k23, .int), (k24, .int), (k25, .int)] sz := by
  refine zgoi (cc := cX12_canTake) (maxL := 4) (ret := (some .boolean)) (C0 := RX12) (lv0 := [(0, .ref h0), (1, .int p1)]) zpl_X12 rfl rfl rfl (Nat.le_of_ble_eq_true rfl) ?_
  intro p e s m below meth c A ls Q hx hb hr hts hown hlocks hml hP hK hD hA hS hl hQ
  unfold fn_X12_canTake at hfn
  refine lv_iload_n hx hb dX12_canTake_0 rfl (lv_at hl 1 rfl) ?_
  refine lv_if_ne (tgt := 41) hx hb dX12_canTake_1 (of_decide_eq_true rfl) (fun c_1 => ?_) (fun c_1 => ?_)
  · have hfn := (if_neg c_1).symm.trans hfn
    refine lv_iload_n hx hb dX12_canTake_41 rfl (lv_at hl 1 rfl) ?_
    refine lv_iconst (v := 1) hx hb dX12_canTake_42 zci_1 ?_
    refine lv_icmp_ne (tgt := 87) hx hb dX12_canTake_43 (of_decide_eq_true rfl) (fun c_2 => ?_) (fun c_2 => ?_)
    · have hfn := (if_neg c_2).symm.trans hfn
      refine lv_iload_n hx hb dX12_canTake_87 rfl (lv_at hl 1 rfl) ?_
      refine lv_iconst (v := 2) hx hb dX12_canTake_88 zci_2 ?_
      refine lv_icmp_ne (tgt := 99) hx hb dX12_canTake_89 (of_decide_eq_true rfl) (fun c_3 => ?_) (fun c_3 => ?_)
      · have hfn := (if_neg c_3).symm.trans hfn
        refine lv_iconst (v := 0) hx hb dX12_canTake_99 zci_0 ?_
        have ho := Option.some.inj hfn
        subst ho
        exact zrz hx hb hr rfl hK hP hD hS hQ ⟨rfl, zB0⟩ hlocks dX12_canTake_100
      have hfn := (if_pos c_3).symm.trans hfn
      refine lv_aload_n hx hb dX12_canTake_92 rfl (lv_at hl 0 rfl) ?_
      obtain ⟨o_4, hqo_4, hfn⟩ := zb_s hfn
      refine zcVb (ci := 12) (rest := []) (pc' := 96) (ws' := [(h0, .inr (12, zO a0 b0 c0)), zVi (a0 17) k1 2 f1, zVi (a0 27) k2 28 f2, zVi (a0 25) k3 28 f3, zVi (a0 29) k4 14 f4, zVi (a0 37) k5 14 f5, zVi (a0 39) k6 14 f6, zVi (a0 24) k7 2 f7, zVi (a0 20) k8 28 f8, zVi (a0 21) k9 28 f9, zVi (a0 16) k10 8 f10, zVi (a0 12) k11 2 f11, zVi (a0 19) k12 28 f12, zVl (a0 31) k13 14 f13, zVl (a0 22) k14 28 f14, zVl (a0 23) k15 28 f15, zVl (a0 32) k16 14 f16, zVi (a0 14) k17 8 f17, zVl (a0 40) k18 14 f18, zVi (a0 15) k19 8 f19, zVi (a0 26) k20 28 f20, zVi (a0 46) k21 14 f21, zVi (a0 43) k22 14 f22, zVi (a0 47) k23 14 f23, zVi (a0 48) k24 64 f24, zVi (a0 49) k25 64 f25]) hP hK hD hS hA ⟨hx, hb, hml, hown, hts⟩ (zf_X12_isThere l dC dI h0 a0 b0 c0 k1 f1 o_4 hqo_4 s.heap.size) (cwV 0 hts gX12_canTake_X12_isThere rfl rfl rfl zhd_X12_isThere ⟨Nat.le_of_ble_eq_true rfl, Nat.le_of_ble_eq_true rfl⟩) [0, 1] rfl (of_decide_eq_true rfl) [0] rfl rfl rfl rfl hl.1 rfl (Nat.le_of_ble_eq_true rfl) dX12_canTake_93 ⟨Nat.le_of_ble_eq_true rfl, Nat.le_of_ble_eq_true rfl⟩ [some 0, some 1] (of_decide_eq_true rfl) (of_decide_eq_true rfl) rfl rfl rfl (fun H locs hw_7n hP hD hS => ?_)
      refine lv_if_ne (tgt := 101) hx hb dX12_canTake_96 (of_decide_eq_true rfl) (fun c_8 => ?_) (fun c_8 => ?_)
      · have hfn := (if_neg c_8).symm.trans hfn
        refine lv_aload_n hx hb dX12_canTake_101 rfl (lv_at hl 0 rfl) ?_
        obtain ⟨o_9, hqo_9, hfn⟩ := zb_s hfn
        refine zcVv (ci := 12) (rest := []) (pc' := 105) (ws' := [(h0, .inr (12, zO a0 (zI (zI (zI (zI (zI (zI (zI (zI b0 30 o_9.1) 33 o_9.2.1) 41 o_9.2.2.1) 42 o_9.2.2.2.1) 50 o_9.2.2.2.2.1) 51 o_9.2.2.2.2.2.1) 52 o_9.2.2.2.2.2.2.1) 53 o_9.2.2.2.2.2.2.2.1) c0)), zVi (a0 17) k1 2 f1, zVi (a0 27) k2 28 f2, zVi (a0 25) k3 28 f3, zVi (a0 29) k4 14 o_9.2.2.2.2.2.2.2.2.1, zVi (a0 37) k5 14 f5, zVi (a0 39) k6 14 o_9.2.2.2.2.2.2.2.2.2.1, zVi (a0 24) k7 2 f7, zVi (a0 20) k8 28 f8, zVi (a0 21) k9 28 f9, zVi (a0 16) k10 8 f10, zVi (a0 12) k11 2 f11, zVi (a0 19) k12 28 f12, zVl (a0 31) k13 14 o_9.2.2.2.2.2.2.2.2.2.2.1, zVl (a0 22) k14 28 f14, zVl (a0 23) k15 28 f15, zVl (a0 32) k16 14 o_9.2.2.2.2.2.2.2.2.2.2.2.1, zVi (a0 14) k17 8 f17, zVl (a0 40) k18 14 o_9.2.2.2.2.2.2.2.2.2.2.2.2, zVi (a0 15) k19 8 f19, zVi (a0 26) k20 28 f20, zVi (a0 46) k21 14 f21, zVi (a0 43) k22 14 f22, zVi (a0 47) k23 14 f23, zVi (a0 48) k24 64 f24, zVi (a0 49) k25 64 f25]) hP hK hD hS hA ⟨hx, hb, hml, hown, hts⟩ (zf_X12_laysSingle l dC dI h0 a0 b0 c0 k1 f1 k2 f2 k3 f3 k4 f4 k5 f5 k6 f6 k7 f7 k8 f8 k9 f9 k10 f10 k11 f11 k12 f12 k13 f13 k14 f14 k15 f15 k16 f16 k17 f17 k18 f18 k19 f19 k20 f20 o_9 hqo_9 H.size) (cwV 0 hts gX12_canTake_X12_laysSingle rfl rfl rfl zhd_X12_laysSingle ⟨Nat.le_of_ble_eq_true rfl, Nat.le_of_ble_eq_true rfl⟩) [0, 1, 2, 3, 4, 5, 6, 7, 8, 9, 10, 11, 12, 13, 14, 15, 16, 17, 18, 19, 20] rfl (of_decide_eq_true rfl) [0, 1, 2, 3, 4, 5, 6, 7, 8, 9, 10, 11, 12, 13, 14, 15, 16, 17, 18, 19] rfl rfl rfl rfl hl.1 rfl (Nat.le_of_ble_eq_true rfl) dX12_canTake_102 ⟨Nat.le_of_ble_eq_true rfl, Nat.le_of_ble_eq_true rfl⟩ [some 0, some 1, some 2, some 3, some 4, some 5, some 6, some 7, some 8, some 9, some 10, some 11, some 12, some 13, some 14, some 15, some 16, some 17, some 18, some 19, some 20] (of_decide_eq_true rfl) (of_decide_eq_true rfl) rfl rfl rfl (fun H locs hP hD hS => ?_)
        refine lv_aload_n hx hb dX12_canTake_105 rfl (lv_at hl 0 rfl) ?_
        obtain ⟨o_13, hqo_13, hfn⟩ := zb_s hfn
        refine zcVv (ci := 12) (rest := []) (pc' := 109) (ws' := [(h0, .inr (12, zO a0 (zI (zI (zI (zI (zI (zI (zI (zI b0 30 o_9.1) 33 o_9.2.1) 41 o_9.2.2.1) 42 o_9.2.2.2.1) 50 o_9.2.2.2.2.1) 51 o_9.2.2.2.2.2.1) 52 o_9.2.2.2.2.2.2.1) 53 o_9.2.2.2.2.2.2.2.1) c0)), zVi (a0 17) k1 2 f1, zVi (a0 27) k2 28 f2, zVi (a0 25) k3 28 f3, zVi (a0 29) k4 14 o_9.2.2.2.2.2.2.2.2.1, zVi (a0 37) k5 14 f5, zVi (a0 39) k6 14 o_13, zVi (a0 24) k7 2 f7, zVi (a0 20) k8 28 f8, zVi (a0 21) k9 28 f9, zVi (a0 16) k10 8 f10, zVi (a0 12) k11 2 f11, zVi (a0 19) k12 28 f12, zVl (a0 31) k13 14 o_9.2.2.2.2.2.2.2.2.2.2.1, zVl (a0 22) k14 28 f14, zVl (a0 23) k15 28 f15, zVl (a0 32) k16 14 o_9.2.2.2.2.2.2.2.2.2.2.2.1, zVi (a0 14) k17 8 f17, zVl (a0 40) k18 14 o_9.2.2.2.2.2.2.2.2.2.2.2.2, zVi (a0 15) k19 8 f19, zVi (a0 26) k20 28 f20, zVi (a0 46) k21 14 f21, zVi (a0 43) k22 14 f22, zVi (a0 47) k23 14 f23, zVi (a0 48) k24 64 f24, zVi (a0 49) k25 64 f25]) hP hK hD hS hA ⟨hx, hb, hml, hown, hts⟩ (zf_X12_triesHand l dC dI h0 a0 (zI (zI (zI (zI (zI (zI (zI (zI b0 30 o_9.1) 33 o_9.2.1) 41 o_9.2.2.1) 42 o_9.2.2.2.1) 50 o_9.2.2.2.2.1) 51 o_9.2.2.2.2.2.1) 52 o_9.2.2.2.2.2.2.1) 53 o_9.2.2.2.2.2.2.2.1) c0 k1 f1 k5 f5 k6 o_9.2.2.2.2.2.2.2.2.2.1 o_13 hqo_13 H.size) (cwV 0 hts gX12_canTake_X12_triesHand rfl rfl rfl zhd_X12_triesHand ⟨Nat.le_of_ble_eq_true rfl, Nat.le_of_ble_eq_true rfl⟩) [0, 1, 5, 6] rfl (of_decide_eq_true rfl) [0, 4, 5] rfl rfl rfl rfl hl.1 rfl (Nat.le_of_ble_eq_true rfl) dX12_canTake_106 ⟨Nat.le_of_ble_eq_true rfl, Nat.le_of_ble_eq_true rfl⟩ [some 0, some 1, none, none, none, some 2, some 3] (of_decide_eq_true rfl) (of_decide_eq_true rfl) rfl rfl rfl (fun H locs hP hD hS => ?_)
        refine lv_aload_n hx hb dX12_canTake_109 rfl (lv_at hl 0 rfl) ?_
        refine va_get (D := (dC, dI)) (ci := 12) (v := .int o_9.2.2.2.2.2.2.1) (C := RX12) (T := TX12) (N := 67) hx hb hts zn_X12_canTake_X12 hown hK hP 0 rfl rfl 52 (of_decide_eq_true rfl) (hts (.fieldLink RX12 171 "ShortEnoughModel" "singleGroup" "I") zw_X12_canTake_1288) (fun _ h9 => h9) rfl dX12_canTake_110 ?_
        refine lv_iconst (v := (-1)) hx hb dX12_canTake_113 zci_m1 ?_
        refine lv_icmp_eq (tgt := 129) hx hb dX12_canTake_114 (of_decide_eq_true rfl) (fun c_17 => ?_) (fun c_17 => ?_)
        · have hfn := (if_pos c_17).symm.trans hfn
          refine lv_aload_n hx hb dX12_canTake_129 rfl (lv_at hl 0 rfl) ?_
          refine va_get (D := (dC, dI)) (ci := 12) (v := .int o_9.2.2.2.2.2.2.1) (C := RX12) (T := TX12) (N := 67) hx hb hts zn_X12_canTake_X12 hown hK hP 0 rfl rfl 52 (of_decide_eq_true rfl) (hts (.fieldLink RX12 171 "ShortEnoughModel" "singleGroup" "I") zw_X12_canTake_1288) (fun _ h9 => h9) rfl dX12_canTake_130 ?_
          refine lv_iconst (v := (-1)) hx hb dX12_canTake_133 zci_m1 ?_
          refine lv_icmp_eq (tgt := 141) hx hb dX12_canTake_134 (of_decide_eq_true rfl) (fun c_18 => ?_) (fun c_18 => ?_)
          · have hfn := (if_pos c_18).symm.trans hfn
            refine lv_iconst (v := 0) hx hb dX12_canTake_141 zci_0 ?_
            have ho := Option.some.inj hfn
            subst ho
            exact zrz hx hb hr rfl hK hP hD hS hQ ⟨rfl, zB0⟩ hlocks dX12_canTake_142
          have hfn := (if_neg c_18).symm.trans hfn
          refine lv_iconst (v := 1) hx hb dX12_canTake_137 zci_1 ?_
          refine lv_goto (tgt := 142) hx hb dX12_canTake_138 (of_decide_eq_true rfl) ?_
          have ho := Option.some.inj hfn
          subst ho
          exact zrz hx hb hr rfl hK hP hD hS hQ ⟨rfl, zB1⟩ hlocks dX12_canTake_142
        have hfn := (if_neg c_17).symm.trans hfn
        refine lv_aload_n hx hb dX12_canTake_117 rfl (lv_at hl 0 rfl) ?_
        refine lv_aload_n hx hb dX12_canTake_118 rfl (lv_at hl 0 rfl) ?_
        refine va_get (D := (dC, dI)) (ci := 12) (v := .int o_9.2.2.2.2.2.2.1) (C := RX12) (T := TX12) (N := 67) hx hb hts zn_X12_canTake_X12 hown hK hP 0 rfl rfl 52 (of_decide_eq_true rfl) (hts (.fieldLink RX12 171 "ShortEnoughModel" "singleGroup" "I") zw_X12_canTake_1288) (fun _ h9 => h9) rfl dX12_canTake_119 ?_
        refine lv_aload_n hx hb dX12_canTake_122 rfl (lv_at hl 0 rfl) ?_
        refine va_get (D := (dC, dI)) (ci := 12) (v := .int o_9.2.2.2.2.2.2.2.1) (C := RX12) (T := TX12) (N := 67) hx hb hts zn_X12_canTake_X12 hown hK hP 0 rfl rfl 53 (of_decide_eq_true rfl) (hts (.fieldLink RX12 174 "ShortEnoughModel" "singleFormat" "I") zw_X12_canTake_1289) (fun _ h9 => h9) rfl dX12_canTake_123 ?_
        obtain ⟨o_19, hqo_19, hfn⟩ := zb_s hfn
        refine zcVv (ci := 12) (rest := []) (pc' := 129) (ws' := [(h0, .inr (12, zO a0 (zI (zI (zI (zI (zI (zI (zI (zI b0 30 o_9.1) 33 o_9.2.1) 41 o_9.2.2.1) 42 o_9.2.2.2.1) 50 o_9.2.2.2.2.1) 51 o_9.2.2.2.2.2.1) 52 o_9.2.2.2.2.2.2.1) 53 o_9.2.2.2.2.2.2.2.1) c0)), zVi (a0 17) k1 2 f1, zVi (a0 27) k2 28 f2, zVi (a0 25) k3 28 f3, zVi (a0 29) k4 14 o_9.2.2.2.2.2.2.2.2.1, zVi (a0 37) k5 14 f5, zVi (a0 39) k6 14 o_19, zVi (a0 24) k7 2 f7, zVi (a0 20) k8 28 f8, zVi (a0 21) k9 28 f9, zVi (a0 16) k10 8 f10, zVi (a0 12) k11 2 f11, zVi (a0 19) k12 28 f12, zVl (a0 31) k13 14 o_9.2.2.2.2.2.2.2.2.2.2.1, zVl (a0 22) k14 28 f14, zVl (a0 23) k15 28 f15, zVl (a0 32) k16 14 o_9.2.2.2.2.2.2.2.2.2.2.2.1, zVi (a0 14) k17 8 f17, zVl (a0 40) k18 14 o_9.2.2.2.2.2.2.2.2.2.2.2.2, zVi (a0 15) k19 8 f19, zVi (a0 26) k20 28 f20, zVi (a0 46) k21 14 f21, zVi (a0 43) k22 14 f22, zVi (a0 47) k23 14 f23, zVi (a0 48) k24 64 f24, zVi (a0 49) k25 64 f25]) hP hK hD hS hA ⟨hx, hb, hml, hown, hts⟩ (zf_X12_triesGroup l dC dI h0 o_9.2.2.2.2.2.2.1 o_9.2.2.2.2.2.2.2.1 a0 (zI (zI (zI (zI (zI (zI (zI (zI b0 30 o_9.1) 33 o_9.2.1) 41 o_9.2.2.1) 42 o_9.2.2.2.1) 50 o_9.2.2.2.2.1) 51 o_9.2.2.2.2.2.1) 52 o_9.2.2.2.2.2.2.1) 53 o_9.2.2.2.2.2.2.2.1) c0 k1 f1 k2 f2 k6 o_13 o_19 hqo_19 H.size) (cwV 2 hts gX12_canTake_X12_triesGroup rfl rfl rfl zhd_X12_triesGroup ⟨Nat.le_of_ble_eq_true rfl, Nat.le_of_ble_eq_true rfl⟩) [0, 1, 2, 6] rfl (of_decide_eq_true rfl) [0, 1, 5] rfl rfl rfl rfl hl.1 rfl (Nat.le_of_ble_eq_true rfl) dX12_canTake_126 ⟨Nat.le_of_ble_eq_true rfl, Nat.le_of_ble_eq_true rfl⟩ [some 0, some 1, some 2, none, none, none, some 3] (of_decide_eq_true rfl) (of_decide_eq_true rfl) rfl rfl rfl (fun H locs hP hD hS => ?_)
        refine lv_aload_n hx hb dX12_canTake_129 rfl (lv_at hl 0 rfl) ?_
        refine va_get (D := (dC, dI)) (ci := 12) (v := .int o_9.2.2.2.2.2.2.1) (C := RX12) (T := TX12) (N := 67) hx hb hts zn_X12_canTake_X12 hown hK hP 0 rfl rfl 52 (of_decide_eq_true rfl) (hts (.fieldLink RX12 171 "ShortEnoughModel" "singleGroup" "I") zw_X12_canTake_1288) (fun _ h9 => h9) rfl dX12_canTake_130 ?_
        refine lv_iconst (v := (-1)) hx hb dX12_canTake_133 zci_m1 ?_
        refine lv_icmp_eq (tgt := 141) hx hb dX12_canTake_134 (of_decide_eq_true rfl) (fun c_23 => ?_) (fun c_23 => ?_)
        · have hfn := (if_pos c_23).symm.trans hfn
          refine lv_iconst (v := 0) hx hb dX12_canTake_141 zci_0 ?_
          have ho := Option.some.inj hfn
          subst ho
          exact zrz hx hb hr rfl hK hP hD hS hQ ⟨rfl, zB0⟩ hlocks dX12_canTake_142
        have hfn := (if_neg c_23).symm.trans hfn
        refine lv_iconst (v := 1) hx hb dX12_canTake_137 zci_1 ?_
        refine lv_goto (tgt := 142) hx hb dX12_canTake_138 (of_decide_eq_true rfl) ?_
        have ho := Option.some.inj hfn
        subst ho
        exact zrz hx hb hr rfl hK hP hD hS hQ ⟨rfl, zB1⟩ hlocks dX12_canTake_142
      have hfn := (if_pos c_8).symm.trans hfn
      refine lv_iconst (v := 0) hx hb dX12_canTake_99 zci_0 ?_
      have ho := Option.some.inj hfn
      subst ho
      exact zrz hx hb hr rfl hK hP hD hS hQ ⟨rfl, zB0⟩ hlocks dX12_canTake_100
    have hfn := (if_pos c_2).symm.trans hfn
    refine lv_aload_n hx hb dX12_canTake_46 rfl (lv_at hl 0 rfl) ?_
    obtain ⟨o_24, hqo_24, hfn⟩ := zb_s hfn
    refine zcVb (ci := 12) (rest := []) (pc' := 50) (ws' := [(h0, .inr (12, zO a0 (zI (zI (zI (zI (zI (zI b0 30 o_24.2.1) 33 o_24.2.2.1) 41 o_24.2.2.2.1) 42 o_24.2.2.2.2.1) 44 o_24.2.2.2.2.2.1) 45 o_24.2.2.2.2.2.2.1) c0)), zVi (a0 17) k1 2 f1, zVi (a0 27) k2 28 f2, zVi (a0 25) k3 28 f3, zVi (a0 29) k4 14 o_24.2.2.2.2.2.2.2.1, zVi (a0 37) k5 14 f5, zVi (a0 39) k6 14 o_24.2.2.2.2.2.2.2.2.1, zVi (a0 24) k7 2 f7, zVi (a0 20) k8 28 f8, zVi (a0 21) k9 28 f9, zVi (a0 16) k10 8 f10, zVi (a0 12) k11 2 f11, zVi (a0 19) k12 28 f12, zVl (a0 31) k13 14 o_24.2.2.2.2.2.2.2.2.2.2.1, zVl (a0 22) k14 28 f14, zVl (a0 23) k15 28 f15, zVl (a0 32) k16 14 o_24.2.2.2.2.2.2.2.2.2.2.2.1, zVi (a0 14) k17 8 f17, zVl (a0 40) k18 14 o_24.2.2.2.2.2.2.2.2.2.2.2.2.1, zVi (a0 15) k19 8 f19, zVi (a0 26) k20 28 f20, zVi (a0 46) k21 14 o_24.2.2.2.2.2.2.2.2.2.1, zVi (a0 43) k22 14 o_24.2.2.2.2.2.2.2.2.2.2.2.2.2.1, zVi (a0 47) k23 14 o_24.2.2.2.2.2.2.2.2.2.2.2.2.2.2.1, zVi (a0 48) k24 64 o_24.2.2.2.2.2.2.2.2.2.2.2.2.2.2.2.1, zVi (a0 49) k25 64 o_24.2.2.2.2.2.2.2.2.2.2.2.2.2.2.2.2]) hP hK hD hS hA ⟨hx, hb, hml, hown, hts⟩ (zf_X12_halve l dC dI h0 a0 b0 c0 k1 f1 k2 f2 k3 f3 k4 f4 k11 f11 k17 f17 k5 f5 k6 f6 k21 f21 k12 f12 k8 f8 k9 f9 k13 f13 k14 f14 k15 f15 k16 f16 k18 f18 k19 f19 k20 f20 k22 f22 k7 f7 k10 f10 k23 f23 k24 f24 k25 f25 o_24 hqo_24 s.heap.size) (cwV 0 hts gX12_canTake_X12_halve rfl rfl rfl zhd_X12_halve ⟨Nat.le_of_ble_eq_true rfl, Nat.le_of_ble_eq_true rfl⟩) [0, 1, 2, 3, 4, 11, 17, 5, 6, 21, 12, 8, 9, 13, 14, 15, 16, 18, 19, 20, 22, 7, 10, 23, 24, 25] rfl (of_decide_eq_true rfl) [0, 1, 2, 3, 10, 16, 4, 5, 20, 11, 7, 8, 12, 13, 14, 15, 17, 18, 19, 21, 6, 9, 22, 23, 24] rfl rfl rfl rfl hl.1 rfl (Nat.le_of_ble_eq_true rfl) dX12_canTake_47 ⟨Nat.le_of_ble_eq_true rfl, Nat.le_of_ble_eq_true rfl⟩ [some 0, some 1, some 2, some 3, some 4, some 7, some 8, some 21, some 11, some 12, some 22, some 5, some 10, some 13, some 14, some 15, some 16, some 6, some 17, some 18, some 19, some 9, some 20, some 23, some 24, some 25] (of_decide_eq_true rfl) (of_decide_eq_true rfl) rfl rfl rfl (fun H locs hw_27n hP hD hS => ?_)
    refine lv_istore_n (lv' := [(2, .int o_24.1), (0, .ref h0), (1, .int p1)]) hx hb dX12_canTake_50 rfl hl (of_decide_eq_true rfl) rfl (fun ls hl => ?_)
    refine lv_iconst (v := 0) hx hb dX12_canTake_51 zci_0 ?_
    refine lv_istore_n (lv' := [(3, .int 0), (2, .int o_24.1), (0, .ref h0), (1, .int p1)]) hx hb dX12_canTake_52 rfl hl (of_decide_eq_true rfl) rfl (fun ls hl => ?_)
    obtain ⟨bd_28, ebd_28, hfn⟩ := zl_g hfn
    have lp_28 : ∀ (n : Nat) (s_28 : Int32 × (Nat → Int32)) (H : Heap) (locs : List Loc) (ls : Array Slot), zl bd_28 n s_28 = some o → va_P (dC, dI) vwCl [(h0, .inr (12, zO a0 (zI (zI (zI (zI (zI (zI b0 30 o_24.2.1) 33 o_24.2.2.1) 41 o_24.2.2.2.1) 42 o_24.2.2.2.2.1) 44 o_24.2.2.2.2.2.1) 45 o_24.2.2.2.2.2.2.1) c0)), zVi (a0 17) k1 2 f1, zVi (a0 27) k2 28 f2, zVi (a0 25) k3 28 f3, zVi (a0 29) k4 14 o_24.2.2.2.2.2.2.2.1, zVi (a0 37) k5 14 f5, zVi (a0 39) k6 14 s_28.2, zVi (a0 24) k7 2 f7, zVi (a0 20) k8 28 f8, zVi (a0 21) k9 28 f9, zVi (a0 16) k10 8 f10, zVi (a0 12) k11 2 f11, zVi (a0 19) k12 28 f12, zVl (a0 31) k13 14 o_24.2.2.2.2.2.2.2.2.2.2.1, zVl (a0 22) k14 28 f14, zVl (a0 23) k15 28 f15, zVl (a0 32) k16 14 o_24.2.2.2.2.2.2.2.2.2.2.2.1, zVi (a0 14) k17 8 f17, zVl (a0 40) k18 14 o_24.2.2.2.2.2.2.2.2.2.2.2.2.1, zVi (a0 15) k19 8 f19, zVi (a0 26) k20 28 f20, zVi (a0 46) k21 14 o_24.2.2.2.2.2.2.2.2.2.1, zVi (a0 43) k22 14 o_24.2.2.2.2.2.2.2.2.2.2.2.2.2.1, zVi (a0 47) k23 14 o_24.2.2.2.2.2.2.2.2.2.2.2.2.2.2.1, zVi (a0 48) k24 64 o_24.2.2.2.2.2.2.2.2.2.2.2.2.2.2.2.1, zVi (a0 49) k25 64 o_24.2.2.2.2.2.2.2.2.2.2.2.2.2.2.2.2] H → va_D A [(h0, .inr (12, zO a0 (zI (zI (zI (zI (zI (zI b0 30 o_24.2.1) 33 o_24.2.2.1) 41 o_24.2.2.2.1) 42 o_24.2.2.2.2.1) 44 o_24.2.2.2.2.2.1) 45 o_24.2.2.2.2.2.2.1) c0)), zVi (a0 17) k1 2 f1, zVi (a0 27) k2 28 f2, zVi (a0 25) k3 28 f3, zVi (a0 29) k4 14 o_24.2.2.2.2.2.2.2.1, zVi (a0 37) k5 14 f5, zVi (a0 39) k6 14 s_28.2, zVi (a0 24) k7 2 f7, zVi (a0 20) k8 28 f8, zVi (a0 21) k9 28 f9, zVi (a0 16) k10 8 f10, zVi (a0 12) k11 2 f11, zVi (a0 19) k12 28 f12, zVl (a0 31) k13 14 o_24.2.2.2.2.2.2.2.2.2.2.1, zVl (a0 22) k14 28 f14, zVl (a0 23) k15 28 f15, zVl (a0 32) k16 14 o_24.2.2.2.2.2.2.2.2.2.2.2.1, zVi (a0 14) k17 8 f17, zVl (a0 40) k18 14 o_24.2.2.2.2.2.2.2.2.2.2.2.2.1, zVi (a0 15) k19 8 f19, zVi (a0 26) k20 28 f20, zVi (a0 46) k21 14 o_24.2.2.2.2.2.2.2.2.2.1, zVi (a0 43) k22 14 o_24.2.2.2.2.2.2.2.2.2.2.2.2.2.1, zVi (a0 47) k23 14 o_24.2.2.2.2.2.2.2.2.2.2.2.2.2.2.1, zVi (a0 48) k24 64 o_24.2.2.2.2.2.2.2.2.2.2.2.2.2.2.2.1, zVi (a0 49) k25 64 o_24.2.2.2.2.2.2.2.2.2.2.2.2.2.2.2.2] → va_S A s.heap H locs → lv_has ls 4 [(3, .int s_28.1), (2, .int o_24.1), (0, .ref h0)] → W p l e (headSpec wsX12_canTake ({ frames := 8, cells := 0, slots := 0, locals := 206 })).room s m ([.ref h0, .int p1] : List Value).toArray below meth c H locs 0 0 Q (F0 m 53 ls []) := by
      intro n
      induction n with
      | zero => exact fun _ _ _ _ hfn => (zl_0 hfn).elim
      | succ n ih_28 =>
        intro s_28 H locs ls hfn hP hD hS hl
        have hfn := zl_s ebd_28 hfn
        refine lv_iload_n hx hb dX12_canTake_53 rfl (lv_at hl 0 rfl) ?_
        refine lv_aload_n hx hb dX12_canTake_54 rfl (lv_at hl 2 rfl) ?_
        refine va_get (D := (dC, dI)) (ci := 12) (v := .ref (a0 17)) (C := RX12) (T := TX12) (N := 67) hx hb hts zn_X12_canTake_X12 hown hK hP 0 rfl rfl 17 (of_decide_eq_true rfl) (hts (.fieldLink RX12 62 "ShortEnoughModel" "numbers" "[I") zw_X12_canTake_1290) (fun _ h9 => h9) rfl dX12_canTake_55 ?_
        refine lv_iconst (v := 0) hx hb dX12_canTake_58 zci_0 ?_
        refine va_iald hx hb hK hP 1 0 rfl rfl (zv_in (by decide +kernel)) dX12_canTake_59 ?_
        refine lv_icmp_ge (tgt := 85) hx hb dX12_canTake_60 (of_decide_eq_true rfl) (fun c_29 => ?_) (fun c_29 => ?_)
        · have hfn := (if_pos c_29).symm.trans hfn
          refine lv_iload_n hx hb dX12_canTake_85 rfl (lv_at hl 1 rfl) ?_
          obtain ⟨h_30, hfn⟩ := zt_s hfn
          have ho := Option.some.inj hfn
          subst ho
          exact zrz hx hb hr h_30 hK hP hD hS hQ ⟨rfl, h_30⟩ hlocks dX12_canTake_86
        have hfn := (if_neg c_29).symm.trans hfn
        refine lv_iload_n hx hb dX12_canTake_63 rfl (lv_at hl 1 rfl) ?_
        refine lv_if_eq (tgt := 85) hx hb dX12_canTake_64 (of_decide_eq_true rfl) (fun c_31 => ?_) (fun c_31 => ?_)
        · have hfn := (if_pos c_31).symm.trans hfn
          refine lv_iload_n hx hb dX12_canTake_85 rfl (lv_at hl 1 rfl) ?_
          obtain ⟨h_32, hfn⟩ := zt_s hfn
          have ho := Option.some.inj hfn
          subst ho
          exact zrz hx hb hr h_32 hK hP hD hS hQ ⟨rfl, h_32⟩ hlocks dX12_canTake_86
        have hfn := (if_neg c_31).symm.trans hfn
        refine lv_aload_n hx hb dX12_canTake_67 rfl (lv_at hl 2 rfl) ?_
        refine va_get (D := (dC, dI)) (ci := 12) (v := .ref (a0 39)) (C := RX12) (T := TX12) (N := 67) hx hb hts zn_X12_canTake_X12 hown hK hP 0 rfl rfl 39 (of_decide_eq_true rfl) (hts (.fieldLink RX12 132 "ShortEnoughModel" "tried" "[I") zw_X12_canTake_1291) (fun _ h9 => h9) rfl dX12_canTake_68 ?_
        refine lv_iload_n hx hb dX12_canTake_71 rfl (lv_at hl 0 rfl) ?_
        refine lv_aload_n hx hb dX12_canTake_72 rfl (lv_at hl 2 rfl) ?_
        refine va_get (D := (dC, dI)) (ci := 12) (v := .ref (a0 43)) (C := RX12) (T := TX12) (N := 67) hx hb hts zn_X12_canTake_X12 hown hK hP 0 rfl rfl 43 (of_decide_eq_true rfl) (hts (.fieldLink RX12 144 "ShortEnoughModel" "soFar" "[I") zw_X12_canTake_1292) (fun _ h9 => h9) rfl dX12_canTake_73 ?_
        refine lv_iload_n hx hb dX12_canTake_76 rfl (lv_at hl 0 rfl) ?_
        obtain ⟨h_33, hfn⟩ := zg_s hfn
        refine va_iald hx hb hK hP 22 21 rfl rfl h_33 dX12_canTake_77 ?_
        refine va_iast hx hb hK hP hD hS 6 5 rfl rfl h_33 dX12_canTake_78 (fun H locs hP hD hS => ?_)
        obtain ⟨g_34, eg_34⟩ : ∃ g : Nat → Int32, g = (upd s_28.2 s_28.1.toNatClampNeg (o_24.2.2.2.2.2.2.2.2.2.2.2.2.2.1 s_28.1.toNatClampNeg)) := ⟨_, rfl⟩
        have hfn := zn_s hfn eg_34
        have hP : va_P (dC, dI) vwCl [(h0, .inr (12, zO a0 (zI (zI (zI (zI (zI (zI b0 30 o_24.2.1) 33 o_24.2.2.1) 41 o_24.2.2.2.1) 42 o_24.2.2.2.2.1) 44 o_24.2.2.2.2.2.1) 45 o_24.2.2.2.2.2.2.1) c0)), zVi (a0 17) k1 2 f1, zVi (a0 27) k2 28 f2, zVi (a0 25) k3 28 f3, zVi (a0 29) k4 14 o_24.2.2.2.2.2.2.2.1, zVi (a0 37) k5 14 f5, zVi (a0 39) k6 14 g_34, zVi (a0 24) k7 2 f7, zVi (a0 20) k8 28 f8, zVi (a0 21) k9 28 f9, zVi (a0 16) k10 8 f10, zVi (a0 12) k11 2 f11, zVi (a0 19) k12 28 f12, zVl (a0 31) k13 14 o_24.2.2.2.2.2.2.2.2.2.2.1, zVl (a0 22) k14 28 f14, zVl (a0 23) k15 28 f15, zVl (a0 32) k16 14 o_24.2.2.2.2.2.2.2.2.2.2.2.1, zVi (a0 14) k17 8 f17, zVl (a0 40) k18 14 o_24.2.2.2.2.2.2.2.2.2.2.2.2.1, zVi (a0 15) k19 8 f19, zVi (a0 26) k20 28 f20, zVi (a0 46) k21 14 o_24.2.2.2.2.2.2.2.2.2.1, zVi (a0 43) k22 14 o_24.2.2.2.2.2.2.2.2.2.2.2.2.2.1, zVi (a0 47) k23 14 o_24.2.2.2.2.2.2.2.2.2.2.2.2.2.2.1, zVi (a0 48) k24 64 o_24.2.2.2.2.2.2.2.2.2.2.2.2.2.2.2.1, zVi (a0 49) k25 64 o_24.2.2.2.2.2.2.2.2.2.2.2.2.2.2.2.2] H := by rw [eg_34]; exact hP
        have hD : va_D A [(h0, .inr (12, zO a0 (zI (zI (zI (zI (zI (zI b0 30 o_24.2.1) 33 o_24.2.2.1) 41 o_24.2.2.2.1) 42 o_24.2.2.2.2.1) 44 o_24.2.2.2.2.2.1) 45 o_24.2.2.2.2.2.2.1) c0)), zVi (a0 17) k1 2 f1, zVi (a0 27) k2 28 f2, zVi (a0 25) k3 28 f3, zVi (a0 29) k4 14 o_24.2.2.2.2.2.2.2.1, zVi (a0 37) k5 14 f5, zVi (a0 39) k6 14 g_34, zVi (a0 24) k7 2 f7, zVi (a0 20) k8 28 f8, zVi (a0 21) k9 28 f9, zVi (a0 16) k10 8 f10, zVi (a0 12) k11 2 f11, zVi (a0 19) k12 28 f12, zVl (a0 31) k13 14 o_24.2.2.2.2.2.2.2.2.2.2.1, zVl (a0 22) k14 28 f14, zVl (a0 23) k15 28 f15, zVl (a0 32) k16 14 o_24.2.2.2.2.2.2.2.2.2.2.2.1, zVi (a0 14) k17 8 f17, zVl (a0 40) k18 14 o_24.2.2.2.2.2.2.2.2.2.2.2.2.1, zVi (a0 15) k19 8 f19, zVi (a0 26) k20 28 f20, zVi (a0 46) k21 14 o_24.2.2.2.2.2.2.2.2.2.1, zVi (a0 43) k22 14 o_24.2.2.2.2.2.2.2.2.2.2.2.2.2.1, zVi (a0 47) k23 14 o_24.2.2.2.2.2.2.2.2.2.2.2.2.2.2.1, zVi (a0 48) k24 64 o_24.2.2.2.2.2.2.2.2.2.2.2.2.2.2.2.1, zVi (a0 49) k25 64 o_24.2.2.2.2.2.2.2.2.2.2.2.2.2.2.2.2] := by rw [eg_34]; exact hD
        refine lv_iinc (v := (s_28.1 + 1)) (lv' := [(3, .int (s_28.1 + 1)), (2, .int o_24.1), (0, .ref h0)]) hx hb dX12_canTake_79 hl (k := 0) rfl rfl (of_decide_eq_true rfl) rfl (fun ls hl => ?_)
        refine lv_goto (tgt := 53) hx hb dX12_canTake_82 (of_decide_eq_true rfl) ?_
        exact ih_28 ((s_28.1 + 1), g_34) H locs ls hfn hP hD hS (lv_sub hl [0, 1, 2] rfl)
    exact lp_28 _ (0, o_24.2.2.2.2.2.2.2.2.1) H locs ls hfn hP hD hS (lv_sub hl [0, 1, 2] rfl)
  have hfn := (if_pos c_1).symm.trans hfn
  refine lv_aload_n hx hb dX12_canTake_4 rfl (lv_at hl 0 rfl) ?_
  obtain ⟨o_35, hqo_35, hfn⟩ := zb_s hfn
  refine zcVb (ci := 12) (rest := []) (pc' := 8) (ws' := [(h0, .inr (12, zO a0 (zI (zI b0 30 o_35.2.1) 33 o_35.2.2.1) c0)), zVi (a0 17) k1 2 f1, zVi (a0 27) k2 28 f2, zVi (a0 25) k3 28 f3, zVi (a0 29) k4 14 o_35.2.2.2, zVi (a0 37) k5 14 f5, zVi (a0 39) k6 14 f6, zVi (a0 24) k7 2 f7, zVi (a0 20) k8 28 f8, zVi (a0 21) k9 28 f9, zVi (a0 16) k10 8 f10, zVi (a0 12) k11 2 f11, zVi (a0 19) k12 28 f12, zVl (a0 31) k13 14 f13, zVl (a0 22) k14 28 f14, zVl (a0 23) k15 28 f15, zVl (a0 32) k16 14 f16, zVi (a0 14) k17 8 f17, zVl (a0 40) k18 14 f18, zVi (a0 15) k19 8 f19, zVi (a0 26) k20 28 f20, zVi (a0 46) k21 14 f21, zVi (a0 43) k22 14 f22, zVi (a0 47) k23 14 f23, zVi (a0 48) k24 64 f24, zVi (a0 49) k25 64 f25]) hP hK hD hS hA ⟨hx, hb, hml, hown, hts⟩ (zf_X12_canSearch l dC dI h0 a0 b0 c0 k1 f1 k2 f2 k3 f3 k4 f4 o_35 hqo_35 s.heap.size) (cwV 0 hts gX12_canTake_X12_canSearch rfl rfl rfl zhd_X12_canSearch ⟨Nat.le_of_ble_eq_true rfl, Nat.le_of_ble_eq_true rfl⟩) [0, 1, 2, 3, 4] rfl (of_decide_eq_true rfl) [0, 1, 2, 3] rfl rfl rfl rfl hl.1 rfl (Nat.le_of_ble_eq_true rfl) dX12_canTake_5 ⟨Nat.le_of_ble_eq_true rfl, Nat.le_of_ble_eq_true rfl⟩ [some 0, some 1, some 2, some 3, some 4] (of_decide_eq_true rfl) (of_decide_eq_true rfl) rfl rfl rfl (fun H locs hw_38n hP hD hS => ?_)
  obtain ⟨j_39, ej_39, hfn⟩ := zj_g hfn
  have jp_39 : ∀ (s_39 : Int32 × Int32 × Int32 × (Nat → Int64) × (Nat → Int64) × (Nat → Int32) × (Nat → Int64)) (H : Heap) (locs : List Loc) (ls : Array Slot), j_39 s_39 = some o → va_P (dC, dI) vwCl [(h0, .inr (12, zO a0 (zI (zI (zI (zI b0 30 o_35.2.1) 33 o_35.2.2.1) 41 s_39.2.1) 42 s_39.2.2.1) c0)), zVi (a0 17) k1 2 f1, zVi (a0 27) k2 28 f2, zVi (a0 25) k3 28 f3, zVi (a0 29) k4 14 o_35.2.2.2, zVi (a0 37) k5 14 f5, zVi (a0 39) k6 14 s_39.2.2.2.2.2.1, zVi (a0 24) k7 2 f7, zVi (a0 20) k8 28 f8, zVi (a0 21) k9 28 f9, zVi (a0 16) k10 8 f10, zVi (a0 12) k11 2 f11, zVi (a0 19) k12 28 f12, zVl (a0 31) k13 14 s_39.2.2.2.1, zVl (a0 22) k14 28 f14, zVl (a0 23) k15 28 f15, zVl (a0 32) k16 14 s_39.2.2.2.2.1, zVi (a0 14) k17 8 f17, zVl (a0 40) k18 14 s_39.2.2.2.2.2.2, zVi (a0 15) k19 8 f19, zVi (a0 26) k20 28 f20, zVi (a0 46) k21 14 f21, zVi (a0 43) k22 14 f22, zVi (a0 47) k23 14 f23, zVi (a0 48) k24 64 f24, zVi (a0 49) k25 64 f25] H → va_D A [(h0, .inr (12, zO a0 (zI (zI (zI (zI b0 30 o_35.2.1) 33 o_35.2.2.1) 41 s_39.2.1) 42 s_39.2.2.1) c0)), zVi (a0 17) k1 2 f1, zVi (a0 27) k2 28 f2, zVi (a0 25) k3 28 f3, zVi (a0 29) k4 14 o_35.2.2.2, zVi (a0 37) k5 14 f5, zVi (a0 39) k6 14 s_39.2.2.2.2.2.1, zVi (a0 24) k7 2 f7, zVi (a0 20) k8 28 f8, zVi (a0 21) k9 28 f9, zVi (a0 16) k10 8 f10, zVi (a0 12) k11 2 f11, zVi (a0 19) k12 28 f12, zVl (a0 31) k13 14 s_39.2.2.2.1, zVl (a0 22) k14 28 f14, zVl (a0 23) k15 28 f15, zVl (a0 32) k16 14 s_39.2.2.2.2.1, zVi (a0 14) k17 8 f17, zVl (a0 40) k18 14 s_39.2.2.2.2.2.2, zVi (a0 15) k19 8 f19, zVi (a0 26) k20 28 f20, zVi (a0 46) k21 14 f21, zVi (a0 43) k22 14 f22, zVi (a0 47) k23 14 f23, zVi (a0 48) k24 64 f24, zVi (a0 49) k25 64 f25] → va_S A s.heap H locs → lv_has ls 4 [(0, .ref h0)] → W p l e (headSpec wsX12_canTake ({ frames := 8, cells := 0, slots := 0, locals := 206 })).room s m ([.ref h0, .int p1] : List Value).toArray below meth c H locs 0 0 Q (F0 m 19 ls [.int s_39.1]) := by
    intro s_39 H locs ls hfn hP hD hS hl
    have hfn := zj_s ej_39 hfn
    refine lv_istore_n (lv' := [(2, .int s_39.1), (0, .ref h0)]) hx hb dX12_canTake_19 rfl hl (of_decide_eq_true rfl) rfl (fun ls hl => ?_)
    refine lv_iload_n hx hb dX12_canTake_20 rfl (lv_at hl 0 rfl) ?_
    refine lv_iconst (v := (-1)) hx hb dX12_canTake_21 zci_m1 ?_
    refine lv_icmp_eq (tgt := 30) hx hb dX12_canTake_22 (of_decide_eq_true rfl) (fun c_40 => ?_) (fun c_40 => ?_)
    · have hfn := (if_pos c_40).symm.trans hfn
      refine lv_iload_n hx hb dX12_canTake_30 rfl (lv_at hl 0 rfl) ?_
      refine lv_iconst (v := (-1)) hx hb dX12_canTake_31 zci_m1 ?_
      refine lv_icmp_eq (tgt := 39) hx hb dX12_canTake_32 (of_decide_eq_true rfl) (fun c_41 => ?_) (fun c_41 => ?_)
      · have hfn := (if_pos c_41).symm.trans hfn
        refine lv_iconst (v := 0) hx hb dX12_canTake_39 zci_0 ?_
        have ho := Option.some.inj hfn
        subst ho
        exact zrz hx hb hr rfl hK hP hD hS hQ ⟨rfl, zB0⟩ hlocks dX12_canTake_40
      have hfn := (if_neg c_41).symm.trans hfn
      refine lv_iconst (v := 1) hx hb dX12_canTake_35 zci_1 ?_
      refine lv_goto (tgt := 40) hx hb dX12_canTake_36 (of_decide_eq_true rfl) ?_
      have ho := Option.some.inj hfn
      subst ho
      exact zrz hx hb hr rfl hK hP hD hS hQ ⟨rfl, zB1⟩ hlocks dX12_canTake_40
    have hfn := (if_neg c_40).symm.trans hfn
    refine lv_aload_n hx hb dX12_canTake_25 rfl (lv_at hl 1 rfl) ?_
    refine lv_iload_n hx hb dX12_canTake_26 rfl (lv_at hl 0 rfl) ?_
    obtain ⟨o_42, hqo_42, hfn⟩ := zb_s hfn
    refine zcVv (ci := 12) (rest := []) (pc' := 30) (ws' := [(h0, .inr (12, zO a0 (zI (zI (zI (zI b0 30 o_35.2.1) 33 o_35.2.2.1) 41 s_39.2.1) 42 s_39.2.2.1) c0)), zVi (a0 17) k1 2 f1, zVi (a0 27) k2 28 f2, zVi (a0 25) k3 28 f3, zVi (a0 29) k4 14 o_35.2.2.2, zVi (a0 37) k5 14 f5, zVi (a0 39) k6 14 o_42, zVi (a0 24) k7 2 f7, zVi (a0 20) k8 28 f8, zVi (a0 21) k9 28 f9, zVi (a0 16) k10 8 f10, zVi (a0 12) k11 2 f11, zVi (a0 19) k12 28 f12, zVl (a0 31) k13 14 s_39.2.2.2.1, zVl (a0 22) k14 28 f14, zVl (a0 23) k15 28 f15, zVl (a0 32) k16 14 s_39.2.2.2.2.1, zVi (a0 14) k17 8 f17, zVl (a0 40) k18 14 s_39.2.2.2.2.2.2, zVi (a0 15) k19 8 f19, zVi (a0 26) k20 28 f20, zVi (a0 46) k21 14 f21, zVi (a0 43) k22 14 f22, zVi (a0 47) k23 14 f23, zVi (a0 48) k24 64 f24, zVi (a0 49) k25 64 f25]) hP hK hD hS hA ⟨hx, hb, hml, hown, hts⟩ (zf_X12_triesChoice l dC dI h0 s_39.1 a0 (zI (zI (zI (zI b0 30 o_35.2.1) 33 o_35.2.2.1) 41 s_39.2.1) 42 s_39.2.2.1) c0 k1 f1 k5 f5 k6 s_39.2.2.2.2.2.1 k4 o_35.2.2.2 k11 f11 k2 f2 o_42 hqo_42 H.size) (cwV 1 hts gX12_canTake_X12_triesChoice rfl rfl rfl zhd_X12_triesChoice ⟨Nat.le_of_ble_eq_true rfl, Nat.le_of_ble_eq_true rfl⟩) [0, 1, 5, 6, 4, 11, 2] rfl (of_decide_eq_true rfl) [0, 4, 5, 3, 10, 1] rfl rfl rfl rfl hl.1 rfl (Nat.le_of_ble_eq_true rfl) dX12_canTake_27 ⟨Nat.le_of_ble_eq_true rfl, Nat.le_of_ble_eq_true rfl⟩ [some 0, some 1, some 6, none, some 4, some 2, some 3, none, none, none, none, some 5] (of_decide_eq_true rfl) (of_decide_eq_true rfl) rfl rfl rfl (fun H locs hP hD hS => ?_)
    refine lv_iload_n hx hb dX12_canTake_30 rfl (lv_at hl 0 rfl) ?_
    refine lv_iconst (v := (-1)) hx hb dX12_canTake_31 zci_m1 ?_
    refine lv_icmp_eq (tgt := 39) hx hb dX12_canTake_32 (of_decide_eq_true rfl) (fun c_46 => ?_) (fun c_46 => ?_)
    · have hfn := (if_pos c_46).symm.trans hfn
      refine lv_iconst (v := 0) hx hb dX12_canTake_39 zci_0 ?_
      have ho := Option.some.inj hfn
      subst ho
      exact zrz hx hb hr rfl hK hP hD hS hQ ⟨rfl, zB0⟩ hlocks dX12_canTake_40
    have hfn := (if_neg c_46).symm.trans hfn
    refine lv_iconst (v := 1) hx hb dX12_canTake_35 zci_1 ?_
    refine lv_goto (tgt := 40) hx hb dX12_canTake_36 (of_decide_eq_true rfl) ?_
    have ho := Option.some.inj hfn
    subst ho
    exact zrz hx hb hr rfl hK hP hD hS hQ ⟨rfl, zB1⟩ hlocks dX12_canTake_40
  refine lv_if_eq (tgt := 18) hx hb dX12_canTake_8 (of_decide_eq_true rfl) (fun c_47 => ?_) (fun c_47 => ?_)
  · have hfn := (if_pos c_47).symm.trans hfn
    refine lv_iconst (v := (-1)) hx hb dX12_canTake_18 zci_m1 ?_
    exact jp_39 ((-1), (b0 41), (b0 42), f13, f16, f6, f18) H locs ls hfn hP hD hS (lv_sub hl [0] rfl)
  have hfn := (if_neg c_47).symm.trans hfn
  refine lv_aload_n hx hb dX12_canTake_11 rfl (lv_at hl 0 rfl) ?_
  obtain ⟨o_48, hqo_48, hfn⟩ := zb_s hfn
  refine zcVi (ci := 12) (rest := []) (pc' := 15) (ws' := [(h0, .inr (12, zO a0 (zI (zI (zI (zI b0 30 o_35.2.1) 33 o_35.2.2.1) 41 o_48.2.1) 42 o_48.2.2.1) c0)), zVi (a0 17) k1 2 f1, zVi (a0 27) k2 28 f2, zVi (a0 25) k3 28 f3, zVi (a0 29) k4 14 o_35.2.2.2, zVi (a0 37) k5 14 f5, zVi (a0 39) k6 14 o_48.2.2.2.1, zVi (a0 24) k7 2 f7, zVi (a0 20) k8 28 f8, zVi (a0 21) k9 28 f9, zVi (a0 16) k10 8 f10, zVi (a0 12) k11 2 f11, zVi (a0 19) k12 28 f12, zVl (a0 31) k13 14 o_48.2.2.2.2.1, zVl (a0 22) k14 28 f14, zVl (a0 23) k15 28 f15, zVl (a0 32) k16 14 o_48.2.2.2.2.2.1, zVi (a0 14) k17 8 f17, zVl (a0 40) k18 14 o_48.2.2.2.2.2.2, zVi (a0 15) k19 8 f19, zVi (a0 26) k20 28 f20, zVi (a0 46) k21 14 f21, zVi (a0 43) k22 14 f22, zVi (a0 47) k23 14 f23, zVi (a0 48) k24 64 f24, zVi (a0 49) k25 64 f25]) hP hK hD hS hA ⟨hx, hb, hml, hown, hts⟩ (zf_X12_cheapestChoice l dC dI h0 a0 (zI (zI b0 30 o_35.2.1) 33 o_35.2.2.1) c0 k11 f11 k1 f1 k5 f5 k6 f6 k4 o_35.2.2.2 k2 f2 k7 f7 k8 f8 k9 f9 k10 f10 k12 f12 k13 f13 k14 f14 k15 f15 k16 f16 k17 f17 k18 f18 k19 f19 k20 f20 o_48 hqo_48 H.size) (cwV 0 hts gX12_canTake_X12_cheapestChoice rfl rfl rfl zhd_X12_cheapestChoice ⟨Nat.le_of_ble_eq_true rfl, Nat.le_of_ble_eq_true rfl⟩) [0, 11, 1, 5, 6, 4, 2, 7, 8, 9, 10, 12, 13, 14, 15, 16, 17, 18, 19, 20] rfl (of_decide_eq_true rfl) [10, 0, 4, 5, 3, 1, 6, 7, 8, 9, 11, 12, 13, 14, 15, 16, 17, 18, 19] rfl rfl rfl rfl hl.1 rfl (Nat.le_of_ble_eq_true rfl) dX12_canTake_12 ⟨Nat.le_of_ble_eq_true rfl, Nat.le_of_ble_eq_true rfl⟩ [some 0, some 2, some 6, none, some 5, some 3, some 4, some 7, some 8, some 9, some 10, some 1, some 11, some 12, some 13, some 14, some 15, some 16, some 17, some 18, some 19] (of_decide_eq_true rfl) (of_decide_eq_true rfl) rfl rfl rfl (fun H locs hP hD hS => ?_)
  refine lv_goto (tgt := 19) hx hb dX12_canTake_15 (of_decide_eq_true rfl) ?_
  exact jp_39 (o_48.1, o_48.2.1, o_48.2.2.1, o_48.2.2.2.2.1, o_48.2.2.2.2.2.1, o_48.2.2.2.1, o_48.2.2.2.2.2.2) H locs ls hfn hP hD hS (lv_sub hl [0] rfl)

set_option maxHeartbeats 4000000 in
set_option maxRecDepth 100000 in
theorem zf_X12_take (l : Launch) (dC : Nat → ClassId) (dI : Nat → Nat → Nat) (h0 : Nat) (p1 : Int32) (a0 : Nat → Nat) (b0 : Nat → Int32) (c0 : Nat → Int64) (k1 : Nat) (f1 : Nat → Int32) (k2 : Nat) (f2 : Nat → Int32) (k3 : Nat) (f3 : Nat → Int32) (k4 : Nat) (f4 : Nat → Int32) (k5 : Nat) (f5 : Nat → Int32) (k6 : Nat) (f6 : Nat → Int32) (k7 : Nat) (f7 : Nat → Int32) (k8 : Nat) (f8 : Nat → Int32) (k9 : Nat) (f9 : Nat → Int32) (k10 : Nat) (f10 : Nat → Int32) (k11 : Nat) (f11 : Nat → Int32) (k12 : Nat) (f12 : Nat → Int32) (k13 : Nat) (f13 : Nat → Int64) (k14 : Nat) (f14 : Nat → Int64) (k15 : Nat) (f15 : Nat → Int64) (k16 : Nat) (f16 : Nat → Int64) (k17 : Nat) (f17 : Nat → Int32) (k18 : Nat) (f18 : Nat → Int64) (k19 : Nat) (f19 : Nat → Int32) (k20 : Nat) (f20 : Nat → Int32) (k21 : Nat) (f21 : Nat → Int32) (k22 : Nat) (f22 : Nat → Int32) (k23 : Nat) (f23 : Nat → Int32) (k24 : Nat) (f24 : Nat → Int32) (k25 : Nat) (f25 : Nat → Int32) (k26 : Nat) (f26 : Nat → Int32) (o : Int32 × Int32 × Int32 × Int32 × Int32 × Int32 × Int32 × Int32 × Int32 × Int32 × Int32 × (Nat → Int32) × (Nat → Int32) × (Nat → Int32) × (Nat → Int64) × (Nat → Int64) × (Nat → Int64) × (Nat → Int32) × (Nat → Int32) × (Nat → Int32) × (Nat → Int32) × (Nat → Int32) × (Nat → Int32)) (hfn : fn_X12_take p1 (b0 30) (b0 33) (c0 34) (b0 38) (b0 41) (b0 42) (b0 44) (b0 45) (b0 50) (b0 51) (b0 52) (b0 53) f1 f2 f3 f4 f5 f6 f7 f8 f9 f10 f11 f12 f13 f14 f15 f16 f17 f18 f19 f20 f21 f22 f23 f24 f25 f26 = some o) (sz : Nat) : zMi l yX12_take wsX12_take ({ frames := 9, cells := 0, slots := 0, locals := 229 }) (dC, dI) vwCl [.ref h0, .int p1] [(h0, .inr (12, zO a0 b0 c0)), zVi (a0 17) k1 2 f1, zVi (a0 27) k2 28 f2, zVi (a0 25) k3 28 f3, zVi (a0 29) k4 14 f4, zVi (a0 37) k5 14 f5, zVi (a0 39) k6 14 f6, zVi (a0 24) k7 2 f7, zVi (a0 20) k8 28 f8, zVi (a0 21) k9 28 f9, zVi (a0 16) k10 8 f10, zVi (a0 12) k11 2 f11, zVi (a0 19) k12 28 f12, zVl (a0 31) k13 14 f13, zVl (a0 22) k14 28 f14, zVl (a0 23) k15 28 f15, zVl (a0 32) k16 14 f16, zVi (a0 14) k17 8 f17, zVl (a0 40) k18 14 f18, zVi (a0 15) k19 8 f19, zVi (a0 26) k20 28 f20, zVi (a0 46) k21 14 f21, zVi (a0 43) k22 14 f22, zVi (a0 47) k23 14 f23, zVi (a0 48) k24 64 f24, zVi (a0 49) k25 64 f25, zVi (a0 2) k26 5 f26] [(k1, .int), (k2, .int), (k3, .int), (k4, .int), (k5, .int), (k6, .int), (k7, .int), (k8, .int), (k9, .int), (k10, .int), (k11, .int), (k12, .int), (k13, .long), (k14, .long), (k15, .long), (k16, .long), (k17, .int), (k18, .long), (k19, .int), (k20, .int), (k21, .boolean), (k22, .int), (k23, .int), (k24, .int), (k25, .int), (k26, .int)] (fun r _ => r = o.1) [(h0, .inr (12, zO a0 (zI (zI (zI (zI (zI (zI (zI (zI (zI (zI b0 30 o.2.1) 33 o.2.2.1) 41 o.2.2.2.1) 42 o.2.2.2.2.1) 44 o.2.2.2.2.2.1) 45 o.2.2.2.2.2.2.1) 50 o.2.2.2.2.2.2.2.1) 51 o.2.2.2.2.2.2.2.2.1) 52 o.2.2.2.2.2.2.2.2.2.1) 53 o.2.2.2.2.2.2.2.2.2.2.1) c0)), zVi (a0 17) k1 2 f1, zVi (a0 27) k2 28 f2, zVi (a0 25) k3 28 f3, zVi (a0 29) k4 14 o.2.2.2.2.2.2.2.2.2.2.2.1, zVi (a0 37) k5 14 o.2.2.2.2.2.2.2.2.2.2.2.2.1, zVi (a0 39) k6 14 o.2.2.2.2.2.2.2.2.2.2.2.2.2.1, zVi (a0 24) k7 2 f7, zVi (a0 20) k8 28 f8, zVi (a0 21) k9 28 f9, zVi (a0 16) k10 8 f10, zVi (a0 12) k11 2 f11, zVi (a0 19) k12 28 f12, zVl (a0 31) k13 14 o.2.2.2.2.2.2.2.2.2.2.2.2.2.2.1, zVl (a0 22) k14 28 f14, zVl (a0 23) k15 28 f15, zVl (a0 32) k16 14 o.2.2.2.2.2.2.2.2.2.2.2.2.2.2.2.1, zVi (a0 14) k17 8 f17, zVl (a0 40) k18 14 o.2.2.2.2.2.2.2.2.2.2.2.2.2.2.2.2.1, zVi (a0 15) k19 8 f19, zVi (a0 26) k20 28 f20, zVi (a0 46) k21 14 o.2.2.2.2.2.2.2.2.2.2.2.2.2.2.2.2.2.1, zVi (a0 43) k22 14 o.2.2.2.2.2.2.2.2.2.2.2.2.2.2.2.2.2.2.1, zVi (a0 47) k23 14 o.2.2.2.2.2.2.2.2.2.2.2.2.2.2.2.2.2.2.2.1, zVi (a0 48) k24 64 o.2.2.2.2.2.2.2.2.2.2.2.2.2.2.2.2.2.2.2.2.1, zVi (a0 49) k25 64 o.2.2.2.2.2.2.2.2.2.2.2.2.2.2.2.2.2.2.2.2.2.1, zVi (a0 2) k26 5 o.2.2.2.2.2.2.2.2.2.2.2.2.2.2.2.2.2.2.2.2.2.2] [(k1, .int), (k2, .int), (k3, .int), (k4, .int), (k5, .int), (k6, .int), (k7, .int), (k8, .int), (k9, .int), (k10, .int), (k11, .int), (k12, .int), (k13, .long), (k14, .long), (k15, .long), (k16, .long), (k17, .int), (k18, .long), (k19, .int), (k20, .int), (k21, .boolean), (k22, .int), (k23, .int), (k24, .int), (k25, .int), (k26, .int)] sz := by
  refine zgoi (cc := cX12_take) (maxL := 2) (ret := (some .int)) (C0 := RX12) (lv0 := [(0, .ref h0), (1, .int p1)]) zpl_X12 rfl rfl rfl (Nat.le_of_ble_eq_true rfl) ?_
  intro p e s m below meth c A ls Q hx hb hr hts hown hlocks hml hP hK hD hA hS hl hQ
  unfold fn_X12_take at hfn
  refine lv_aload_n hx hb dX12_take_0 rfl (lv_at hl 0 rfl) ?_
  refine lv_iload_n hx hb dX12_take_1 rfl (lv_at hl 1 rfl) ?_
  obtain ⟨o_1, hqo_1, hfn⟩ := zb_s hfn
  refine zcVb (ci := 12) (rest := []) (pc' := 5) (ws' := [(h0, .inr (12, zO a0 (zI (zI (zI (zI (zI (zI (zI (zI (zI (zI b0 30 o_1.2.1) 33 o_1.2.2.1) 41 o_1.2.2.2.1) 42 o_1.2.2.2.2.1) 44 o_1.2.2.2.2.2.1) 45 o_1.2.2.2.2.2.2.1) 50 o_1.2.2.2.2.2.2.2.1) 51 o_1.2.2.2.2.2.2.2.2.1) 52 o_1.2.2.2.2.2.2.2.2.2.1) 53 o_1.2.2.2.2.2.2.2.2.2.2.1) c0)), zVi (a0 17) k1 2 f1, zVi (a0 27) k2 28 f2, zVi (a0 25) k3 28 f3, zVi (a0 29) k4 14 o_1.2.2.2.2.2.2.2.2.2.2.2.1, zVi (a0 37) k5 14 f5, zVi (a0 39) k6 14 o_1.2.2.2.2.2.2.2.2.2.2.2.2.1, zVi (a0 24) k7 2 f7, zVi (a0 20) k8 28 f8, zVi (a0 21) k9 28 f9, zVi (a0 16) k10 8 f10, zVi (a0 12) k11 2 f11, zVi (a0 19) k12 28 f12, zVl (a0 31) k13 14 o_1.2.2.2.2.2.2.2.2.2.2.2.2.2.1, zVl (a0 22) k14 28 f14, zVl (a0 23) k15 28 f15, zVl (a0 32) k16 14 o_1.2.2.2.2.2.2.2.2.2.2.2.2.2.2.1, zVi (a0 14) k17 8 f17, zVl (a0 40) k18 14 o_1.2.2.2.2.2.2.2.2.2.2.2.2.2.2.2.1, zVi (a0 15) k19 8 f19, zVi (a0 26) k20 28 f20, zVi (a0 46) k21 14 o_1.2.2.2.2.2.2.2.2.2.2.2.2.2.2.2.2.1, zVi (a0 43) k22 14 o_1.2.2.2.2.2.2.2.2.2.2.2.2.2.2.2.2.2.1, zVi (a0 47) k23 14 o_1.2.2.2.2.2.2.2.2.2.2.2.2.2.2.2.2.2.2.1, zVi (a0 48) k24 64 o_1.2.2.2.2.2.2.2.2.2.2.2.2.2.2.2.2.2.2.2.1, zVi (a0 49) k25 64 o_1.2.2.2.2.2.2.2.2.2.2.2.2.2.2.2.2.2.2.2.2, zVi (a0 2) k26 5 f26]) hP hK hD hS hA ⟨hx, hb, hml, hown, hts⟩ (zf_X12_canTake l dC dI h0 p1 a0 b0 c0 k1 f1 k2 f2 k3 f3 k4 f4 k5 f5 k6 f6 k7 f7 k8 f8 k9 f9 k10 f10 k11 f11 k12 f12 k13 f13 k14 f14 k15 f15 k16 f16 k17 f17 k18 f18 k19 f19 k20 f20 k21 f21 k22 f22 k23 f23 k24 f24 k25 f25 o_1 hqo_1 s.heap.size) (cwV 1 hts gX12_take_X12_canTake rfl rfl rfl zhd_X12_canTake ⟨Nat.le_of_ble_eq_true rfl, Nat.le_of_ble_eq_true rfl⟩) [0, 1, 2, 3, 4, 5, 6, 7, 8, 9, 10, 11, 12, 13, 14, 15, 16, 17, 18, 19, 20, 21, 22, 23, 24, 25] rfl (of_decide_eq_true rfl) [0, 1, 2, 3, 4, 5, 6, 7, 8, 9, 10, 11, 12, 13, 14, 15, 16, 17, 18, 19, 20, 21, 22, 23, 24] rfl rfl rfl rfl hl.1 rfl (Nat.le_of_ble_eq_true rfl) dX12_take_2 ⟨Nat.le_of_ble_eq_true rfl, Nat.le_of_ble_eq_true rfl⟩ [some 0, some 1, some 2, some 3, some 4, some 5, some 6, some 7, some 8, some 9, some 10, some 11, some 12, some 13, some 14, some 15, some 16, some 17, some 18, some 19, some 20, some 21, some 22, some 23, some 24, some 25] (of_decide_eq_true rfl) (of_decide_eq_true rfl) rfl rfl rfl (fun H locs hw_4n hP hD hS => ?_)
  refine lv_if_ne (tgt := 14) hx hb dX12_take_5 (of_decide_eq_true rfl) (fun c_5 => ?_) (fun c_5 => ?_)
  · have hfn := (if_neg c_5).symm.trans hfn
    refine lv_aload_n hx hb dX12_take_14 rfl (lv_at hl 0 rfl) ?_
    obtain ⟨o_6, hqo_6, hfn⟩ := zb_s hfn
    refine zcVv (ci := 12) (rest := []) (pc' := 18) (ws' := [(h0, .inr (12, zO a0 (zI (zI (zI (zI (zI (zI (zI (zI (zI (zI b0 30 o_1.2.1) 33 o_1.2.2.1) 41 o_1.2.2.2.1) 42 o_1.2.2.2.2.1) 44 o_1.2.2.2.2.2.1) 45 o_1.2.2.2.2.2.2.1) 50 o_1.2.2.2.2.2.2.2.1) 51 o_1.2.2.2.2.2.2.2.2.1) 52 o_1.2.2.2.2.2.2.2.2.2.1) 53 o_1.2.2.2.2.2.2.2.2.2.2.1) c0)), zVi (a0 17) k1 2 f1, zVi (a0 27) k2 28 f2, zVi (a0 25) k3 28 f3, zVi (a0 29) k4 14 o_1.2.2.2.2.2.2.2.2.2.2.2.1, zVi (a0 37) k5 14 o_6, zVi (a0 39) k6 14 o_1.2.2.2.2.2.2.2.2.2.2.2.2.1, zVi (a0 24) k7 2 f7, zVi (a0 20) k8 28 f8, zVi (a0 21) k9 28 f9, zVi (a0 16) k10 8 f10, zVi (a0 12) k11 2 f11, zVi (a0 19) k12 28 f12, zVl (a0 31) k13 14 o_1.2.2.2.2.2.2.2.2.2.2.2.2.2.1, zVl (a0 22) k14 28 f14, zVl (a0 23) k15 28 f15, zVl (a0 32) k16 14 o_1.2.2.2.2.2.2.2.2.2.2.2.2.2.2.1, zVi (a0 14) k17 8 f17, zVl (a0 40) k18 14 o_1.2.2.2.2.2.2.2.2.2.2.2.2.2.2.2.1, zVi (a0 15) k19 8 f19, zVi (a0 26) k20 28 f20, zVi (a0 46) k21 14 o_1.2.2.2.2.2.2.2.2.2.2.2.2.2.2.2.2.1, zVi (a0 43) k22 14 o_1.2.2.2.2.2.2.2.2.2.2.2.2.2.2.2.2.2.1, zVi (a0 47) k23 14 o_1.2.2.2.2.2.2.2.2.2.2.2.2.2.2.2.2.2.2.1, zVi (a0 48) k24 64 o_1.2.2.2.2.2.2.2.2.2.2.2.2.2.2.2.2.2.2.2.1, zVi (a0 49) k25 64 o_1.2.2.2.2.2.2.2.2.2.2.2.2.2.2.2.2.2.2.2.2, zVi (a0 2) k26 5 f26]) hP hK hD hS hA ⟨hx, hb, hml, hown, hts⟩ (zf_X12_takesTried l dC dI h0 a0 (zI (zI (zI (zI (zI (zI (zI (zI (zI (zI b0 30 o_1.2.1) 33 o_1.2.2.1) 41 o_1.2.2.2.1) 42 o_1.2.2.2.2.1) 44 o_1.2.2.2.2.2.1) 45 o_1.2.2.2.2.2.2.1) 50 o_1.2.2.2.2.2.2.2.1) 51 o_1.2.2.2.2.2.2.2.2.1) 52 o_1.2.2.2.2.2.2.2.2.2.1) 53 o_1.2.2.2.2.2.2.2.2.2.2.1) c0 k1 f1 k6 o_1.2.2.2.2.2.2.2.2.2.2.2.2.1 k5 f5 o_6 hqo_6 H.size) (cwV 0 hts gX12_take_X12_takesTried rfl rfl rfl zhd_X12_takesTried ⟨Nat.le_of_ble_eq_true rfl, Nat.le_of_ble_eq_true rfl⟩) [0, 1, 6, 5] rfl (of_decide_eq_true rfl) [0, 5, 4] rfl rfl rfl rfl hl.1 rfl (Nat.le_of_ble_eq_true rfl) dX12_take_15 ⟨Nat.le_of_ble_eq_true rfl, Nat.le_of_ble_eq_true rfl⟩ [some 0, some 1, none, none, none, some 3, some 2] (of_decide_eq_true rfl) (of_decide_eq_true rfl) rfl rfl rfl (fun H locs hP hD hS => ?_)
    refine lv_aload_n hx hb dX12_take_18 rfl (lv_at hl 0 rfl) ?_
    obtain ⟨o_10, hqo_10, hfn⟩ := zb_s hfn
    refine zcVi (ci := 12) (rest := []) (pc' := 22) (ws' := [(h0, .inr (12, zO a0 (zI (zI (zI (zI (zI (zI (zI (zI (zI (zI b0 30 o_1.2.1) 33 o_1.2.2.1) 41 o_1.2.2.2.1) 42 o_1.2.2.2.2.1) 44 o_1.2.2.2.2.2.1) 45 o_1.2.2.2.2.2.2.1) 50 o_1.2.2.2.2.2.2.2.1) 51 o_1.2.2.2.2.2.2.2.2.1) 52 o_1.2.2.2.2.2.2.2.2.2.1) 53 o_1.2.2.2.2.2.2.2.2.2.2.1) c0)), zVi (a0 17) k1 2 f1, zVi (a0 27) k2 28 f2, zVi (a0 25) k3 28 f3, zVi (a0 29) k4 14 o_1.2.2.2.2.2.2.2.2.2.2.2.1, zVi (a0 37) k5 14 o_6, zVi (a0 39) k6 14 o_1.2.2.2.2.2.2.2.2.2.2.2.2.1, zVi (a0 24) k7 2 f7, zVi (a0 20) k8 28 f8, zVi (a0 21) k9 28 f9, zVi (a0 16) k10 8 f10, zVi (a0 12) k11 2 f11, zVi (a0 19) k12 28 f12, zVl (a0 31) k13 14 o_1.2.2.2.2.2.2.2.2.2.2.2.2.2.1, zVl (a0 22) k14 28 f14, zVl (a0 23) k15 28 f15, zVl (a0 32) k16 14 o_1.2.2.2.2.2.2.2.2.2.2.2.2.2.2.1, zVi (a0 14) k17 8 f17, zVl (a0 40) k18 14 o_1.2.2.2.2.2.2.2.2.2.2.2.2.2.2.2.1, zVi (a0 15) k19 8 f19, zVi (a0 26) k20 28 f20, zVi (a0 46) k21 14 o_1.2.2.2.2.2.2.2.2.2.2.2.2.2.2.2.2.1, zVi (a0 43) k22 14 o_1.2.2.2.2.2.2.2.2.2.2.2.2.2.2.2.2.2.1, zVi (a0 47) k23 14 o_1.2.2.2.2.2.2.2.2.2.2.2.2.2.2.2.2.2.2.1, zVi (a0 48) k24 64 o_1.2.2.2.2.2.2.2.2.2.2.2.2.2.2.2.2.2.2.2.1, zVi (a0 49) k25 64 o_1.2.2.2.2.2.2.2.2.2.2.2.2.2.2.2.2.2.2.2.2, zVi (a0 2) k26 5 f26]) hP hK hD hS hA ⟨hx, hb, hml, hown, hts⟩ (zf_X12_costTried l dC dI h0 a0 (zI (zI (zI (zI (zI (zI (zI (zI (zI (zI b0 30 o_1.2.1) 33 o_1.2.2.1) 41 o_1.2.2.2.1) 42 o_1.2.2.2.2.1) 44 o_1.2.2.2.2.2.1) 45 o_1.2.2.2.2.2.2.1) 50 o_1.2.2.2.2.2.2.2.1) 51 o_1.2.2.2.2.2.2.2.2.1) 52 o_1.2.2.2.2.2.2.2.2.2.1) 53 o_1.2.2.2.2.2.2.2.2.2.2.1) c0 k7 f7 k1 f1 k8 f8 k6 o_1.2.2.2.2.2.2.2.2.2.2.2.2.1 k9 f9 k10 f10 o_10 hqo_10 H.size) (cwV 0 hts gX12_take_X12_costTried rfl rfl rfl zhd_X12_costTried ⟨Nat.le_of_ble_eq_true rfl, Nat.le_of_ble_eq_true rfl⟩) [0, 7, 1, 8, 6, 9, 10] rfl (of_decide_eq_true rfl) [6, 0, 7, 5, 8, 9] rfl rfl rfl rfl hl.1 rfl (Nat.le_of_ble_eq_true rfl) dX12_take_19 ⟨Nat.le_of_ble_eq_true rfl, Nat.le_of_ble_eq_true rfl⟩ [some 0, some 2, none, none, none, none, some 4, some 1, some 3, some 5, some 6] (of_decide_eq_true rfl) (of_decide_eq_true rfl) rfl rfl rfl (fun H locs hP hD hS => ?_)
    have ho := Option.some.inj hfn
    subst ho
    exact zri hx hb hr hK hP hD hS hQ rfl hlocks dX12_take_22
  have hfn := (if_pos c_5).symm.trans hfn
  refine lv_aload_n hx hb dX12_take_8 rfl (lv_at hl 0 rfl) ?_
  refine lv_iconst (v := 2) hx hb dX12_take_9 zci_2 ?_
  obtain ⟨o_14, hqo_14, hfn⟩ := zb_s hfn
  refine zcVi (ci := 12) (rest := []) (pc' := 13) (ws' := [(h0, .inr (12, zO a0 (zI (zI (zI (zI (zI (zI (zI (zI (zI (zI b0 30 o_1.2.1) 33 o_1.2.2.1) 41 o_1.2.2.2.1) 42 o_1.2.2.2.2.1) 44 o_1.2.2.2.2.2.1) 45 o_1.2.2.2.2.2.2.1) 50 o_1.2.2.2.2.2.2.2.1) 51 o_1.2.2.2.2.2.2.2.2.1) 52 o_1.2.2.2.2.2.2.2.2.2.1) 53 o_1.2.2.2.2.2.2.2.2.2.2.1) c0)), zVi (a0 17) k1 2 f1, zVi (a0 27) k2 28 f2, zVi (a0 25) k3 28 f3, zVi (a0 29) k4 14 o_1.2.2.2.2.2.2.2.2.2.2.2.1, zVi (a0 37) k5 14 f5, zVi (a0 39) k6 14 o_1.2.2.2.2.2.2.2.2.2.2.2.2.1, zVi (a0 24) k7 2 f7, zVi (a0 20) k8 28 f8, zVi (a0 21) k9 28 f9, zVi (a0 16) k10 8 f10, zVi (a0 12) k11 2 f11, zVi (a0 19) k12 28 f12, zVl (a0 31) k13 14 o_1.2.2.2.2.2.2.2.2.2.2.2.2.2.1, zVl (a0 22) k14 28 f14, zVl (a0 23) k15 28 f15, zVl (a0 32) k16 14 o_1.2.2.2.2.2.2.2.2.2.2.2.2.2.2.1, zVi (a0 14) k17 8 f17, zVl (a0 40) k18 14 o_1.2.2.2.2.2.2.2.2.2.2.2.2.2.2.2.1, zVi (a0 15) k19 8 f19, zVi (a0 26) k20 28 f20, zVi (a0 46) k21 14 o_1.2.2.2.2.2.2.2.2.2.2.2.2.2.2.2.2.1, zVi (a0 43) k22 14 o_1.2.2.2.2.2.2.2.2.2.2.2.2.2.2.2.2.2.1, zVi (a0 47) k23 14 o_1.2.2.2.2.2.2.2.2.2.2.2.2.2.2.2.2.2.2.1, zVi (a0 48) k24 64 o_1.2.2.2.2.2.2.2.2.2.2.2.2.2.2.2.2.2.2.2.1, zVi (a0 49) k25 64 o_1.2.2.2.2.2.2.2.2.2.2.2.2.2.2.2.2.2.2.2.2, zVi (a0 2) k26 5 o_14.2]) hP hK hD hS hA ⟨hx, hb, hml, hown, hts⟩ (zf_X12_refuses l dC dI h0 2 a0 (zI (zI (zI (zI (zI (zI (zI (zI (zI (zI b0 30 o_1.2.1) 33 o_1.2.2.1) 41 o_1.2.2.2.1) 42 o_1.2.2.2.2.1) 44 o_1.2.2.2.2.2.1) 45 o_1.2.2.2.2.2.2.1) 50 o_1.2.2.2.2.2.2.2.1) 51 o_1.2.2.2.2.2.2.2.2.1) 52 o_1.2.2.2.2.2.2.2.2.2.1) 53 o_1.2.2.2.2.2.2.2.2.2.2.1) c0 k26 f26 o_14 hqo_14 H.size) (cwV 1 hts gX12_take_X12_refuses rfl rfl rfl zhd_X12_refuses ⟨Nat.le_of_ble_eq_true rfl, Nat.le_of_ble_eq_true rfl⟩) [0, 26] rfl (of_decide_eq_true rfl) [25] rfl rfl rfl rfl hl.1 rfl (Nat.le_of_ble_eq_true rfl) dX12_take_10 ⟨Nat.le_of_ble_eq_true rfl, Nat.le_of_ble_eq_true rfl⟩ [some 0, none, none, none, none, none, none, none, none, none, none, none, none, none, none, none, none, none, none, none, none, none, none, none, none, none, some 1] (of_decide_eq_true rfl) (of_decide_eq_true rfl) rfl rfl rfl (fun H locs hP hD hS => ?_)
  have ho := Option.some.inj hfn
  subst ho
  exact zri hx hb hr hK hP hD hS hQ rfl hlocks dX12_take_13
