theorem zn_X12_laysRange_X12 : ∀ w ∈ wsX120, w ∈ wsX12_laysRange := fun _ h => List.mem_cons_of_mem _ (List.mem_append_right _ h)
theorem zw_X12_laysRange_1101 : Cond.fieldLink RX12 68 "ShortEnoughModel" "op" "[I" ∈ wsX12_laysRange := List.mem_of_getElem? (i := 1) (by decide +kernel)
theorem zw_X12_laysRange_1102 : Cond.fieldLink RX12 106 "ShortEnoughModel" "least" "[J" ∈ wsX12_laysRange := List.mem_of_getElem? (i := 4) (by decide +kernel)
theorem zw_X12_laysRange_1103 : Cond.fieldLink RX12 109 "ShortEnoughModel" "greatest" "[J" ∈ wsX12_laysRange := List.mem_of_getElem? (i := 6) (by decide +kernel)
theorem zw_X12_laysRange_1104 : Cond.fieldLink RX12 112 "ShortEnoughModel" "wideNumber" "I" ∈ wsX12_laysRange := List.mem_of_getElem? (i := 2) (by decide +kernel)
theorem zw_X12_laysRange_1105 : Cond.fieldLink RX12 115 "ShortEnoughModel" "wideBy" "J" ∈ wsX12_laysRange := List.mem_of_getElem? (i := 3) (by decide +kernel)
theorem zw_X12_laysRange_1106 : Cond.fieldLink RX12 77 "ShortEnoughModel" "firstV" "[J" ∈ wsX12_laysRange := List.mem_of_getElem? (i := 5) (by decide +kernel)
theorem zw_X12_laysRange_1107 : Cond.fieldLink RX12 81 "ShortEnoughModel" "secondV" "[J" ∈ wsX12_laysRange := List.mem_of_getElem? (i := 7) (by decide +kernel)
set_option maxHeartbeats 4000000 in
set_option maxRecDepth 100000 in
theorem zf_X12_laysRange (l : Launch) (dC : Nat → ClassId) (dI : Nat → Nat → Nat) (h0 : Nat) (p1 : Int32) (a0 : Nat → Nat) (b0 : Nat → Int32) (c0 : Nat → Int64) (k1 : Nat) (f1 : Nat → Int32) (k2 : Nat) (f2 : Nat → Int32) (k3 : Nat) (f3 : Nat → Int32) (k4 : Nat) (f4 : Nat → Int64) (k5 : Nat) (f5 : Nat → Int64) (k6 : Nat) (f6 : Nat → Int64) (k7 : Nat) (f7 : Nat → Int64) (o : (Nat → Int64) × (Nat → Int64)) (hfn : fn_X12_laysRange p1 (b0 33) (c0 34) f1 f2 f3 f4 f5 f6 f7 = some o) (sz : Nat) : zMv l yX12_laysRange wsX12_laysRange ({ frames := 3, cells := 0, slots := 0, locals := 76 }) (dC, dI) vwCl [.ref h0, .int p1] [(h0, .inr (12, zO a0 b0 c0)), zVi (a0 19) k1 28 f1, zVi (a0 20) k2 28 f2, zVi (a0 21) k3 28 f3, zVl (a0 31) k4 14 f4, zVl (a0 22) k5 28 f5, zVl (a0 23) k6 28 f6, zVl (a0 32) k7 14 f7] [(k1, .int), (k2, .int), (k3, .int), (k4, .long), (k5, .long), (k6, .long), (k7, .long)] (fun _ => True) [(h0, .inr (12, zO a0 b0 c0)), zVi (a0 19) k1 28 f1, zVi (a0 20) k2 28 f2, zVi (a0 21) k3 28 f3, zVl (a0 31) k4 14 o.1, zVl (a0 22) k5 28 f5, zVl (a0 23) k6 28 f6, zVl (a0 32) k7 14 o.2] [(k1, .int), (k2, .int), (k3, .int), (k4, .long), (k5, .long), (k6, .long), (k7, .long)] sz := by
  refine zgov (cc := cX12_laysRange) (maxL := 18) (ret := none) (C0 := RX12) (lv0 := [(0, .ref h0), (1, .int p1)]) zpl_X12 rfl rfl rfl (Nat.le_of_ble_eq_true rfl) ?_
  intro p e s m below meth c A ls Q hx hb hr hts hown hlocks hml hP hK hD hA hS hl hQ
  unfold fn_X12_laysRange at hfn
  refine lv_aload_n hx hb dX12_laysRange_0 rfl (lv_at hl 0 rfl) ?_
  refine va_get (D := (dC, dI)) (ci := 12) (v := .ref (a0 19)) (C := RX12) (T := TX12) (N := 67) hx hb hts zn_X12_laysRange_X12 hown hK hP 0 rfl rfl 19 (of_decide_eq_true rfl) (hts (.fieldLink RX12 68 "ShortEnoughModel" "op" "[I") zw_X12_laysRange_1101) (fun _ h9 => h9) rfl dX12_laysRange_1 ?_
  refine lv_iload_n hx hb dX12_laysRange_4 rfl (lv_at hl 1 rfl) ?_
  obtain ⟨h_1, hfn⟩ := zg_s hfn
  refine va_iald hx hb hK hP 1 0 rfl rfl h_1 dX12_laysRange_5 ?_
  refine lv_if_ne (tgt := 55) hx hb dX12_laysRange_6 (of_decide_eq_true rfl) (fun c_2 => ?_) (fun c_2 => ?_)
  · have hfn := (if_neg c_2).symm.trans hfn
    refine lv_aload_n hx hb dX12_laysRange_55 rfl (lv_at hl 0 rfl) ?_
    refine lv_iload_n hx hb dX12_laysRange_56 rfl (lv_at hl 1 rfl) ?_
    refine lv_iconst (v := 0) hx hb dX12_laysRange_57 zci_0 ?_
    obtain ⟨o_3, hqo_3, hfn⟩ := zb_s hfn
    refine zcVl (ci := 12) (rest := []) (pc' := 61) (ws' := [(h0, .inr (12, zO a0 b0 c0)), zVi (a0 19) k1 28 f1, zVi (a0 20) k2 28 f2, zVi (a0 21) k3 28 f3, zVl (a0 31) k4 14 f4, zVl (a0 22) k5 28 f5, zVl (a0 23) k6 28 f6, zVl (a0 32) k7 14 f7]) hP hK hD hS hA ⟨hx, hb, hml, hown, hts⟩ (zf_X12_lowOf l dC dI h0 p1 0 a0 b0 c0 k2 f2 k3 f3 k4 f4 k5 f5 k6 f6 o_3 hqo_3 s.heap.size) (cwV 2 hts gX12_laysRange_X12_lowOf rfl rfl rfl zhd_X12_lowOf ⟨Nat.le_of_ble_eq_true rfl, Nat.le_of_ble_eq_true rfl⟩) [0, 2, 3, 4, 5, 6] rfl (of_decide_eq_true rfl) [1, 2, 3, 4, 5] rfl rfl rfl rfl hl.1 rfl (Nat.le_of_ble_eq_true rfl) dX12_laysRange_58 ⟨Nat.le_of_ble_eq_true rfl, Nat.le_of_ble_eq_true rfl⟩ [some 0, none, some 1, some 2, some 3, some 4, some 5] (of_decide_eq_true rfl) (of_decide_eq_true rfl) rfl rfl rfl (fun H locs hP hD hS => ?_)
    refine lv_lstore_n (lv' := [(2, .long o_3), (0, .ref h0), (1, .int p1)]) hx hb dX12_laysRange_61 rfl hl (of_decide_eq_true rfl) rfl (fun ls hl => ?_)
    refine lv_aload_n hx hb dX12_laysRange_62 rfl (lv_at hl 1 rfl) ?_
    refine lv_iload_n hx hb dX12_laysRange_63 rfl (lv_at hl 2 rfl) ?_
    refine lv_iconst (v := 0) hx hb dX12_laysRange_64 zci_0 ?_
    obtain ⟨o_7, hqo_7, hfn⟩ := zb_s hfn
    refine zcVl (ci := 12) (rest := []) (pc' := 68) (ws' := [(h0, .inr (12, zO a0 b0 c0)), zVi (a0 19) k1 28 f1, zVi (a0 20) k2 28 f2, zVi (a0 21) k3 28 f3, zVl (a0 31) k4 14 f4, zVl (a0 22) k5 28 f5, zVl (a0 23) k6 28 f6, zVl (a0 32) k7 14 f7]) hP hK hD hS hA ⟨hx, hb, hml, hown, hts⟩ (zf_X12_highOf l dC dI h0 p1 0 a0 b0 c0 k2 f2 k3 f3 k7 f7 k5 f5 k6 f6 o_7 hqo_7 H.size) (cwV 2 hts gX12_laysRange_X12_highOf rfl rfl rfl zhd_X12_highOf ⟨Nat.le_of_ble_eq_true rfl, Nat.le_of_ble_eq_true rfl⟩) [0, 2, 3, 7, 5, 6] rfl (of_decide_eq_true rfl) [1, 2, 6, 4, 5] rfl rfl rfl rfl hl.1 rfl (Nat.le_of_ble_eq_true rfl) dX12_laysRange_65 ⟨Nat.le_of_ble_eq_true rfl, Nat.le_of_ble_eq_true rfl⟩ [some 0, none, some 1, some 2, none, some 4, some 5, some 3] (of_decide_eq_true rfl) (of_decide_eq_true rfl) rfl rfl rfl (fun H locs hP hD hS => ?_)
    refine lv_lstore (lv' := [(4, .long o_7), (2, .long o_3), (0, .ref h0), (1, .int p1)]) hx hb dX12_laysRange_68 hl (of_decide_eq_true rfl) rfl (fun ls hl => ?_)
    refine lv_aload_n hx hb dX12_laysRange_70 rfl (lv_at hl 2 rfl) ?_
    refine lv_iload_n hx hb dX12_laysRange_71 rfl (lv_at hl 3 rfl) ?_
    refine lv_iconst (v := 1) hx hb dX12_laysRange_72 zci_1 ?_
    obtain ⟨o_11, hqo_11, hfn⟩ := zb_s hfn
    refine zcVl (ci := 12) (rest := []) (pc' := 76) (ws' := [(h0, .inr (12, zO a0 b0 c0)), zVi (a0 19) k1 28 f1, zVi (a0 20) k2 28 f2, zVi (a0 21) k3 28 f3, zVl (a0 31) k4 14 f4, zVl (a0 22) k5 28 f5, zVl (a0 23) k6 28 f6, zVl (a0 32) k7 14 f7]) hP hK hD hS hA ⟨hx, hb, hml, hown, hts⟩ (zf_X12_lowOf l dC dI h0 p1 1 a0 b0 c0 k2 f2 k3 f3 k4 f4 k5 f5 k6 f6 o_11 hqo_11 H.size) (cwV 2 hts gX12_laysRange_X12_lowOf rfl rfl rfl zhd_X12_lowOf ⟨Nat.le_of_ble_eq_true rfl, Nat.le_of_ble_eq_true rfl⟩) [0, 2, 3, 4, 5, 6] rfl (of_decide_eq_true rfl) [1, 2, 3, 4, 5] rfl rfl rfl rfl hl.1 rfl (Nat.le_of_ble_eq_true rfl) dX12_laysRange_73 ⟨Nat.le_of_ble_eq_true rfl, Nat.le_of_ble_eq_true rfl⟩ [some 0, none, some 1, some 2, some 3, some 4, some 5] (of_decide_eq_true rfl) (of_decide_eq_true rfl) rfl rfl rfl (fun H locs hP hD hS => ?_)
    refine lv_lstore (lv' := [(6, .long o_11), (4, .long o_7), (2, .long o_3), (0, .ref h0), (1, .int p1)]) hx hb dX12_laysRange_76 hl (of_decide_eq_true rfl) rfl (fun ls hl => ?_)
    refine lv_aload_n hx hb dX12_laysRange_78 rfl (lv_at hl 3 rfl) ?_
    refine lv_iload_n hx hb dX12_laysRange_79 rfl (lv_at hl 4 rfl) ?_
    refine lv_iconst (v := 1) hx hb dX12_laysRange_80 zci_1 ?_
    obtain ⟨o_15, hqo_15, hfn⟩ := zb_s hfn
    refine zcVl (ci := 12) (rest := []) (pc' := 84) (ws' := [(h0, .inr (12, zO a0 b0 c0)), zVi (a0 19) k1 28 f1, zVi (a0 20) k2 28 f2, zVi (a0 21) k3 28 f3, zVl (a0 31) k4 14 f4, zVl (a0 22) k5 28 f5, zVl (a0 23) k6 28 f6, zVl (a0 32) k7 14 f7]) hP hK hD hS hA ⟨hx, hb, hml, hown, hts⟩ (zf_X12_highOf l dC dI h0 p1 1 a0 b0 c0 k2 f2 k3 f3 k7 f7 k5 f5 k6 f6 o_15 hqo_15 H.size) (cwV 2 hts gX12_laysRange_X12_highOf rfl rfl rfl zhd_X12_highOf ⟨Nat.le_of_ble_eq_true rfl, Nat.le_of_ble_eq_true rfl⟩) [0, 2, 3, 7, 5, 6] rfl (of_decide_eq_true rfl) [1, 2, 6, 4, 5] rfl rfl rfl rfl hl.1 rfl (Nat.le_of_ble_eq_true rfl) dX12_laysRange_81 ⟨Nat.le_of_ble_eq_true rfl, Nat.le_of_ble_eq_true rfl⟩ [some 0, none, some 1, some 2, none, some 4, some 5, some 3] (of_decide_eq_true rfl) (of_decide_eq_true rfl) rfl rfl rfl (fun H locs hP hD hS => ?_)
    refine lv_lstore (lv' := [(8, .long o_15), (6, .long o_11), (4, .long o_7), (2, .long o_3), (0, .ref h0), (1, .int p1)]) hx hb dX12_laysRange_84 hl (of_decide_eq_true rfl) rfl (fun ls hl => ?_)
    refine lv_aload_n hx hb dX12_laysRange_86 rfl (lv_at hl 4 rfl) ?_
    refine va_get (D := (dC, dI)) (ci := 12) (v := .ref (a0 19)) (C := RX12) (T := TX12) (N := 67) hx hb hts zn_X12_laysRange_X12 hown hK hP 0 rfl rfl 19 (of_decide_eq_true rfl) (hts (.fieldLink RX12 68 "ShortEnoughModel" "op" "[I") zw_X12_laysRange_1101) (fun _ h9 => h9) rfl dX12_laysRange_87 ?_
    refine lv_iload_n hx hb dX12_laysRange_90 rfl (lv_at hl 5 rfl) ?_
    refine va_iald hx hb hK hP 1 0 rfl rfl h_1 dX12_laysRange_91 ?_
    refine lv_iconst (v := 2) hx hb dX12_laysRange_92 zci_2 ?_
    refine lv_icmp_ne (tgt := 120) hx hb dX12_laysRange_93 (of_decide_eq_true rfl) (fun c_19 => ?_) (fun c_19 => ?_)
    · have hfn := (if_neg c_19).symm.trans hfn
      refine lv_aload_n hx hb dX12_laysRange_120 rfl (lv_at hl 4 rfl) ?_
      refine va_get (D := (dC, dI)) (ci := 12) (v := .ref (a0 19)) (C := RX12) (T := TX12) (N := 67) hx hb hts zn_X12_laysRange_X12 hown hK hP 0 rfl rfl 19 (of_decide_eq_true rfl) (hts (.fieldLink RX12 68 "ShortEnoughModel" "op" "[I") zw_X12_laysRange_1101) (fun _ h9 => h9) rfl dX12_laysRange_121 ?_
      refine lv_iload_n hx hb dX12_laysRange_124 rfl (lv_at hl 5 rfl) ?_
      refine va_iald hx hb hK hP 1 0 rfl rfl h_1 dX12_laysRange_125 ?_
      refine lv_iconst (v := 3) hx hb dX12_laysRange_126 zci_3 ?_
      refine lv_icmp_ne (tgt := 221) hx hb dX12_laysRange_127 (of_decide_eq_true rfl) (fun c_20 => ?_) (fun c_20 => ?_)
      · have hfn := (if_neg c_20).symm.trans hfn
        refine lv_aload_n hx hb dX12_laysRange_221 rfl (lv_at hl 4 rfl) ?_
        refine va_get (D := (dC, dI)) (ci := 12) (v := .ref (a0 31)) (C := RX12) (T := TX12) (N := 67) hx hb hts zn_X12_laysRange_X12 hown hK hP 0 rfl rfl 31 (of_decide_eq_true rfl) (hts (.fieldLink RX12 106 "ShortEnoughModel" "least" "[J") zw_X12_laysRange_1102) (fun _ h9 => h9) rfl dX12_laysRange_222 ?_
        refine lv_iload_n hx hb dX12_laysRange_225 rfl (lv_at hl 5 rfl) ?_
        refine lv_aload_n hx hb dX12_laysRange_226 rfl (lv_at hl 4 rfl) ?_
        refine va_get (D := (dC, dI)) (ci := 12) (v := .ref (a0 19)) (C := RX12) (T := TX12) (N := 67) hx hb hts zn_X12_laysRange_X12 hown hK hP 0 rfl rfl 19 (of_decide_eq_true rfl) (hts (.fieldLink RX12 68 "ShortEnoughModel" "op" "[I") zw_X12_laysRange_1101) (fun _ h9 => h9) rfl dX12_laysRange_227 ?_
        refine lv_iload_n hx hb dX12_laysRange_230 rfl (lv_at hl 5 rfl) ?_
        refine va_iald hx hb hK hP 1 0 rfl rfl h_1 dX12_laysRange_231 ?_
        refine lv_lload_n hx hb dX12_laysRange_232 rfl (lv_at hl 3 rfl) ?_
        refine lv_lload hx hb dX12_laysRange_233 (lv_at hl 1 rfl) ?_
        refine lv_lconst (v := 1) hx hb dX12_laysRange_235 (by decide +kernel) ?_
        obtain ⟨o_21, hqo_21, hfn⟩ := zb_s hfn
        refine zcSl (rest := [.int p1, .ref (a0 31)]) (pc' := 239) (ws' := [(h0, .inr (12, zO a0 b0 c0)), zVi (a0 19) k1 28 f1, zVi (a0 20) k2 28 f2, zVi (a0 21) k3 28 f3, zVl (a0 31) k4 14 f4, zVl (a0 22) k5 28 f5, zVl (a0 23) k6 28 f6, zVl (a0 32) k7 14 f7]) hP hK hD hS hA ⟨hx, hb, hml, hown, hts⟩ (zf_X12_two l dC dI (f1 p1.toNatClampNeg) o_3 o_11 (1 : Int64) o_21 hqo_21 H.size) (va_cwS 4 hts gX12_laysRange_X12_two rfl rfl rfl zhd_X12_two.2 ⟨Nat.le_of_ble_eq_true rfl, Nat.le_of_ble_eq_true rfl⟩) [] rfl (of_decide_eq_true rfl) [] rfl rfl hl.1 rfl (Nat.le_of_ble_eq_true rfl) dX12_laysRange_236 ⟨Nat.le_of_ble_eq_true rfl, Nat.le_of_ble_eq_true rfl⟩ [] (of_decide_eq_true rfl) (of_decide_eq_true rfl) rfl rfl rfl (fun H locs hP hD hS => ?_)
        obtain ⟨h_25, hfn⟩ := zg_s hfn
        refine va_last hx hb hK hP hD hS 4 3 rfl rfl h_25 dX12_laysRange_239 (fun H locs hP hD hS => ?_)
        have hP : va_P (dC, dI) vwCl [(h0, .inr (12, zO a0 b0 c0)), zVi (a0 19) k1 28 f1, zVi (a0 20) k2 28 f2, zVi (a0 21) k3 28 f3, zVl (a0 31) k4 14 (vp_updL f4 p1.toNatClampNeg o_21), zVl (a0 22) k5 28 f5, zVl (a0 23) k6 28 f6, zVl (a0 32) k7 14 f7] H := hP
        have hD := zDW hD hP rfl
        refine lv_aload_n hx hb dX12_laysRange_240 rfl (lv_at hl 4 rfl) ?_
        refine va_get (D := (dC, dI)) (ci := 12) (v := .ref (a0 32)) (C := RX12) (T := TX12) (N := 67) hx hb hts zn_X12_laysRange_X12 hown hK hP 0 rfl rfl 32 (of_decide_eq_true rfl) (hts (.fieldLink RX12 109 "ShortEnoughModel" "greatest" "[J") zw_X12_laysRange_1103) (fun _ h9 => h9) rfl dX12_laysRange_241 ?_
        refine lv_iload_n hx hb dX12_laysRange_244 rfl (lv_at hl 5 rfl) ?_
        refine lv_aload_n hx hb dX12_laysRange_245 rfl (lv_at hl 4 rfl) ?_
        refine va_get (D := (dC, dI)) (ci := 12) (v := .ref (a0 19)) (C := RX12) (T := TX12) (N := 67) hx hb hts zn_X12_laysRange_X12 hown hK hP 0 rfl rfl 19 (of_decide_eq_true rfl) (hts (.fieldLink RX12 68 "ShortEnoughModel" "op" "[I") zw_X12_laysRange_1101) (fun _ h9 => h9) rfl dX12_laysRange_246 ?_
        refine lv_iload_n hx hb dX12_laysRange_249 rfl (lv_at hl 5 rfl) ?_
        refine va_iald hx hb hK hP 1 0 rfl rfl h_1 dX12_laysRange_250 ?_
        refine lv_lload hx hb dX12_laysRange_251 (lv_at hl 2 rfl) ?_
        refine lv_lload hx hb dX12_laysRange_253 (lv_at hl 0 rfl) ?_
        refine lv_lconst (v := 1) hx hb dX12_laysRange_255 (by decide +kernel) ?_
        obtain ⟨o_26, hqo_26, hfn⟩ := zb_s hfn
        refine zcSl (rest := [.int p1, .ref (a0 32)]) (pc' := 259) (ws' := [(h0, .inr (12, zO a0 b0 c0)), zVi (a0 19) k1 28 f1, zVi (a0 20) k2 28 f2, zVi (a0 21) k3 28 f3, zVl (a0 31) k4 14 (vp_updL f4 p1.toNatClampNeg o_21), zVl (a0 22) k5 28 f5, zVl (a0 23) k6 28 f6, zVl (a0 32) k7 14 f7]) hP hK hD hS hA ⟨hx, hb, hml, hown, hts⟩ (zf_X12_two l dC dI (f1 p1.toNatClampNeg) o_7 o_15 (1 : Int64) o_26 hqo_26 H.size) (va_cwS 4 hts gX12_laysRange_X12_two rfl rfl rfl zhd_X12_two.2 ⟨Nat.le_of_ble_eq_true rfl, Nat.le_of_ble_eq_true rfl⟩) [] rfl (of_decide_eq_true rfl) [] rfl rfl hl.1 rfl (Nat.le_of_ble_eq_true rfl) dX12_laysRange_256 ⟨Nat.le_of_ble_eq_true rfl, Nat.le_of_ble_eq_true rfl⟩ [] (of_decide_eq_true rfl) (of_decide_eq_true rfl) rfl rfl rfl (fun H locs hP hD hS => ?_)
        refine va_last hx hb hK hP hD hS 7 6 rfl rfl h_25 dX12_laysRange_259 (fun H locs hP hD hS => ?_)
        have hP : va_P (dC, dI) vwCl [(h0, .inr (12, zO a0 b0 c0)), zVi (a0 19) k1 28 f1, zVi (a0 20) k2 28 f2, zVi (a0 21) k3 28 f3, zVl (a0 31) k4 14 (vp_updL f4 p1.toNatClampNeg o_21), zVl (a0 22) k5 28 f5, zVl (a0 23) k6 28 f6, zVl (a0 32) k7 14 (vp_updL f7 p1.toNatClampNeg o_26)] H := hP
        have hD := zDW hD hP rfl
        have ho := Option.some.inj hfn
        subst ho
        exact zrv hx hb hr hK hP hD hS hQ trivial hlocks dX12_laysRange_260
      have hfn := (if_pos c_20).symm.trans hfn
      refine lv_iconst (v := 3) hx hb dX12_laysRange_130 zci_3 ?_
      refine lv_lload_n hx hb dX12_laysRange_131 rfl (lv_at hl 3 rfl) ?_
      refine lv_lload hx hb dX12_laysRange_132 (lv_at hl 1 rfl) ?_
      refine lv_lconst (v := 1) hx hb dX12_laysRange_134 (by decide +kernel) ?_
      obtain ⟨o_30, hqo_30, hfn⟩ := zb_s hfn
      refine zcSl (rest := []) (pc' := 138) (ws' := [(h0, .inr (12, zO a0 b0 c0)), zVi (a0 19) k1 28 f1, zVi (a0 20) k2 28 f2, zVi (a0 21) k3 28 f3, zVl (a0 31) k4 14 f4, zVl (a0 22) k5 28 f5, zVl (a0 23) k6 28 f6, zVl (a0 32) k7 14 f7]) hP hK hD hS hA ⟨hx, hb, hml, hown, hts⟩ (zf_X12_two l dC dI 3 o_3 o_11 (1 : Int64) o_30 hqo_30 H.size) (va_cwS 4 hts gX12_laysRange_X12_two rfl rfl rfl zhd_X12_two.2 ⟨Nat.le_of_ble_eq_true rfl, Nat.le_of_ble_eq_true rfl⟩) [] rfl (of_decide_eq_true rfl) [] rfl rfl hl.1 rfl (Nat.le_of_ble_eq_true rfl) dX12_laysRange_135 ⟨Nat.le_of_ble_eq_true rfl, Nat.le_of_ble_eq_true rfl⟩ [] (of_decide_eq_true rfl) (of_decide_eq_true rfl) rfl rfl rfl (fun H locs hP hD hS => ?_)
      refine lv_lstore (lv' := [(10, .long o_30), (8, .long o_15), (6, .long o_11), (4, .long o_7), (2, .long o_3), (0, .ref h0), (1, .int p1)]) hx hb dX12_laysRange_138 hl (of_decide_eq_true rfl) rfl (fun ls hl => ?_)
      refine lv_iconst (v := 3) hx hb dX12_laysRange_140 zci_3 ?_
      refine lv_lload_n hx hb dX12_laysRange_141 rfl (lv_at hl 4 rfl) ?_
      refine lv_lload hx hb dX12_laysRange_142 (lv_at hl 1 rfl) ?_
      refine lv_lconst (v := 1) hx hb dX12_laysRange_144 (by decide +kernel) ?_
      obtain ⟨o_34, hqo_34, hfn⟩ := zb_s hfn
      refine zcSl (rest := []) (pc' := 148) (ws' := [(h0, .inr (12, zO a0 b0 c0)), zVi (a0 19) k1 28 f1, zVi (a0 20) k2 28 f2, zVi (a0 21) k3 28 f3, zVl (a0 31) k4 14 f4, zVl (a0 22) k5 28 f5, zVl (a0 23) k6 28 f6, zVl (a0 32) k7 14 f7]) hP hK hD hS hA ⟨hx, hb, hml, hown, hts⟩ (zf_X12_two l dC dI 3 o_3 o_15 (1 : Int64) o_34 hqo_34 H.size) (va_cwS 4 hts gX12_laysRange_X12_two rfl rfl rfl zhd_X12_two.2 ⟨Nat.le_of_ble_eq_true rfl, Nat.le_of_ble_eq_true rfl⟩) [] rfl (of_decide_eq_true rfl) [] rfl rfl hl.1 rfl (Nat.le_of_ble_eq_true rfl) dX12_laysRange_145 ⟨Nat.le_of_ble_eq_true rfl, Nat.le_of_ble_eq_true rfl⟩ [] (of_decide_eq_true rfl) (of_decide_eq_true rfl) rfl rfl rfl (fun H locs hP hD hS => ?_)
      refine lv_lstore (lv' := [(12, .long o_34), (10, .long o_30), (8, .long o_15), (6, .long o_11), (4, .long o_7), (2, .long o_3), (0, .ref h0), (1, .int p1)]) hx hb dX12_laysRange_148 hl (of_decide_eq_true rfl) rfl (fun ls hl => ?_)
      refine lv_iconst (v := 3) hx hb dX12_laysRange_150 zci_3 ?_
      refine lv_lload hx hb dX12_laysRange_151 (lv_at hl 4 rfl) ?_
      refine lv_lload hx hb dX12_laysRange_153 (lv_at hl 3 rfl) ?_
      refine lv_lconst (v := 1) hx hb dX12_laysRange_155 (by decide +kernel) ?_
      obtain ⟨o_38, hqo_38, hfn⟩ := zb_s hfn
      refine zcSl (rest := []) (pc' := 159) (ws' := [(h0, .inr (12, zO a0 b0 c0)), zVi (a0 19) k1 28 f1, zVi (a0 20) k2 28 f2, zVi (a0 21) k3 28 f3, zVl (a0 31) k4 14 f4, zVl (a0 22) k5 28 f5, zVl (a0 23) k6 28 f6, zVl (a0 32) k7 14 f7]) hP hK hD hS hA ⟨hx, hb, hml, hown, hts⟩ (zf_X12_two l dC dI 3 o_7 o_11 (1 : Int64) o_38 hqo_38 H.size) (va_cwS 4 hts gX12_laysRange_X12_two rfl rfl rfl zhd_X12_two.2 ⟨Nat.le_of_ble_eq_true rfl, Nat.le_of_ble_eq_true rfl⟩) [] rfl (of_decide_eq_true rfl) [] rfl rfl hl.1 rfl (Nat.le_of_ble_eq_true rfl) dX12_laysRange_156 ⟨Nat.le_of_ble_eq_true rfl, Nat.le_of_ble_eq_true rfl⟩ [] (of_decide_eq_true rfl) (of_decide_eq_true rfl) rfl rfl rfl (fun H locs hP hD hS => ?_)
      refine lv_lstore (lv' := [(14, .long o_38), (12, .long o_34), (10, .long o_30), (8, .long o_15), (6, .long o_11), (4, .long o_7), (2, .long o_3), (0, .ref h0), (1, .int p1)]) hx hb dX12_laysRange_159 hl (of_decide_eq_true rfl) rfl (fun ls hl => ?_)
      refine lv_iconst (v := 3) hx hb dX12_laysRange_161 zci_3 ?_
      refine lv_lload hx hb dX12_laysRange_162 (lv_at hl 5 rfl) ?_
      refine lv_lload hx hb dX12_laysRange_164 (lv_at hl 3 rfl) ?_
      refine lv_lconst (v := 1) hx hb dX12_laysRange_166 (by decide +kernel) ?_
      obtain ⟨o_42, hqo_42, hfn⟩ := zb_s hfn
      refine zcSl (rest := []) (pc' := 170) (ws' := [(h0, .inr (12, zO a0 b0 c0)), zVi (a0 19) k1 28 f1, zVi (a0 20) k2 28 f2, zVi (a0 21) k3 28 f3, zVl (a0 31) k4 14 f4, zVl (a0 22) k5 28 f5, zVl (a0 23) k6 28 f6, zVl (a0 32) k7 14 f7]) hP hK hD hS hA ⟨hx, hb, hml, hown, hts⟩ (zf_X12_two l dC dI 3 o_7 o_15 (1 : Int64) o_42 hqo_42 H.size) (va_cwS 4 hts gX12_laysRange_X12_two rfl rfl rfl zhd_X12_two.2 ⟨Nat.le_of_ble_eq_true rfl, Nat.le_of_ble_eq_true rfl⟩) [] rfl (of_decide_eq_true rfl) [] rfl rfl hl.1 rfl (Nat.le_of_ble_eq_true rfl) dX12_laysRange_167 ⟨Nat.le_of_ble_eq_true rfl, Nat.le_of_ble_eq_true rfl⟩ [] (of_decide_eq_true rfl) (of_decide_eq_true rfl) rfl rfl rfl (fun H locs hP hD hS => ?_)
      refine lv_lstore (lv' := [(16, .long o_42), (14, .long o_38), (12, .long o_34), (10, .long o_30), (8, .long o_15), (6, .long o_11), (4, .long o_7), (2, .long o_3), (0, .ref h0), (1, .int p1)]) hx hb dX12_laysRange_170 hl (of_decide_eq_true rfl) rfl (fun ls hl => ?_)
      refine lv_aload_n hx hb dX12_laysRange_172 rfl (lv_at hl 8 rfl) ?_
      refine va_get (D := (dC, dI)) (ci := 12) (v := .ref (a0 31)) (C := RX12) (T := TX12) (N := 67) hx hb hts zn_X12_laysRange_X12 hown hK hP 0 rfl rfl 31 (of_decide_eq_true rfl) (hts (.fieldLink RX12 106 "ShortEnoughModel" "least" "[J") zw_X12_laysRange_1102) (fun _ h9 => h9) rfl dX12_laysRange_173 ?_
      refine lv_iload_n hx hb dX12_laysRange_176 rfl (lv_at hl 9 rfl) ?_
      refine lv_lload hx hb dX12_laysRange_177 (lv_at hl 3 rfl) ?_
      refine lv_lload hx hb dX12_laysRange_179 (lv_at hl 2 rfl) ?_
      obtain ⟨o_46, hqo_46, hfn⟩ := zb_s hfn
      refine zcSl (rest := [.int p1, .ref (a0 31)]) (pc' := 184) (ws' := [(h0, .inr (12, zO a0 b0 c0)), zVi (a0 19) k1 28 f1, zVi (a0 20) k2 28 f2, zVi (a0 21) k3 28 f3, zVl (a0 31) k4 14 f4, zVl (a0 22) k5 28 f5, zVl (a0 23) k6 28 f6, zVl (a0 32) k7 14 f7]) hP hK hD hS hA ⟨hx, hb, hml, hown, hts⟩ (zf_X12_lesser l dC dI o_30 o_34 o_46 hqo_46 H.size) (va_cwS 2 hts gX12_laysRange_X12_lesser rfl rfl rfl zhd_X12_lesser.2 ⟨Nat.le_of_ble_eq_true rfl, Nat.le_of_ble_eq_true rfl⟩) [] rfl (of_decide_eq_true rfl) [] rfl rfl hl.1 rfl (Nat.le_of_ble_eq_true rfl) dX12_laysRange_181 ⟨Nat.le_of_ble_eq_true rfl, Nat.le_of_ble_eq_true rfl⟩ [] (of_decide_eq_true rfl) (of_decide_eq_true rfl) rfl rfl rfl (fun H locs hP hD hS => ?_)
      refine lv_lload hx hb dX12_laysRange_184 (lv_at hl 1 rfl) ?_
      refine lv_lload hx hb dX12_laysRange_186 (lv_at hl 0 rfl) ?_
      obtain ⟨o_50, hqo_50, hfn⟩ := zb_s hfn
      refine zcSl (rest := [.long o_46, .int p1, .ref (a0 31)]) (pc' := 191) (ws' := [(h0, .inr (12, zO a0 b0 c0)), zVi (a0 19) k1 28 f1, zVi (a0 20) k2 28 f2, zVi (a0 21) k3 28 f3, zVl (a0 31) k4 14 f4, zVl (a0 22) k5 28 f5, zVl (a0 23) k6 28 f6, zVl (a0 32) k7 14 f7]) hP hK hD hS hA ⟨hx, hb, hml, hown, hts⟩ (zf_X12_lesser l dC dI o_38 o_42 o_50 hqo_50 H.size) (va_cwS 2 hts gX12_laysRange_X12_lesser rfl rfl rfl zhd_X12_lesser.2 ⟨Nat.le_of_ble_eq_true rfl, Nat.le_of_ble_eq_true rfl⟩) [] rfl (of_decide_eq_true rfl) [] rfl rfl hl.1 rfl (Nat.le_of_ble_eq_true rfl) dX12_laysRange_188 ⟨Nat.le_of_ble_eq_true rfl, Nat.le_of_ble_eq_true rfl⟩ [] (of_decide_eq_true rfl) (of_decide_eq_true rfl) rfl rfl rfl (fun H locs hP hD hS => ?_)
      obtain ⟨o_54, hqo_54, hfn⟩ := zb_s hfn
      refine zcSl (rest := [.int p1, .ref (a0 31)]) (pc' := 194) (ws' := [(h0, .inr (12, zO a0 b0 c0)), zVi (a0 19) k1 28 f1, zVi (a0 20) k2 28 f2, zVi (a0 21) k3 28 f3, zVl (a0 31) k4 14 f4, zVl (a0 22) k5 28 f5, zVl (a0 23) k6 28 f6, zVl (a0 32) k7 14 f7]) hP hK hD hS hA ⟨hx, hb, hml, hown, hts⟩ (zf_X12_lesser l dC dI o_46 o_50 o_54 hqo_54 H.size) (va_cwS 2 hts gX12_laysRange_X12_lesser rfl rfl rfl zhd_X12_lesser.2 ⟨Nat.le_of_ble_eq_true rfl, Nat.le_of_ble_eq_true rfl⟩) [] rfl (of_decide_eq_true rfl) [] rfl rfl hl.1 rfl (Nat.le_of_ble_eq_true rfl) dX12_laysRange_191 ⟨Nat.le_of_ble_eq_true rfl, Nat.le_of_ble_eq_true rfl⟩ [] (of_decide_eq_true rfl) (of_decide_eq_true rfl) rfl rfl rfl (fun H locs hP hD hS => ?_)
      obtain ⟨h_58, hfn⟩ := zg_s hfn
      refine va_last hx hb hK hP hD hS 4 3 rfl rfl h_58 dX12_laysRange_194 (fun H locs hP hD hS => ?_)
      have hP : va_P (dC, dI) vwCl [(h0, .inr (12, zO a0 b0 c0)), zVi (a0 19) k1 28 f1, zVi (a0 20) k2 28 f2, zVi (a0 21) k3 28 f3, zVl (a0 31) k4 14 (vp_updL f4 p1.toNatClampNeg o_54), zVl (a0 22) k5 28 f5, zVl (a0 23) k6 28 f6, zVl (a0 32) k7 14 f7] H := hP
      have hD := zDW hD hP rfl
      refine lv_aload_n hx hb dX12_laysRange_195 rfl (lv_at hl 8 rfl) ?_
      refine va_get (D := (dC, dI)) (ci := 12) (v := .ref (a0 32)) (C := RX12) (T := TX12) (N := 67) hx hb hts zn_X12_laysRange_X12 hown hK hP 0 rfl rfl 32 (of_decide_eq_true rfl) (hts (.fieldLink RX12 109 "ShortEnoughModel" "greatest" "[J") zw_X12_laysRange_1103) (fun _ h9 => h9) rfl dX12_laysRange_196 ?_
      refine lv_iload_n hx hb dX12_laysRange_199 rfl (lv_at hl 9 rfl) ?_
      refine lv_lload hx hb dX12_laysRange_200 (lv_at hl 3 rfl) ?_
      refine lv_lload hx hb dX12_laysRange_202 (lv_at hl 2 rfl) ?_
      obtain ⟨o_59, hqo_59, hfn⟩ := zb_s hfn
      refine zcSl (rest := [.int p1, .ref (a0 32)]) (pc' := 207) (ws' := [(h0, .inr (12, zO a0 b0 c0)), zVi (a0 19) k1 28 f1, zVi (a0 20) k2 28 f2, zVi (a0 21) k3 28 f3, zVl (a0 31) k4 14 (vp_updL f4 p1.toNatClampNeg o_54), zVl (a0 22) k5 28 f5, zVl (a0 23) k6 28 f6, zVl (a0 32) k7 14 f7]) hP hK hD hS hA ⟨hx, hb, hml, hown, hts⟩ (zf_X12_greater l dC dI o_30 o_34 o_59 hqo_59 H.size) (va_cwS 2 hts gX12_laysRange_X12_greater rfl rfl rfl zhd_X12_greater.2 ⟨Nat.le_of_ble_eq_true rfl, Nat.le_of_ble_eq_true rfl⟩) [] rfl (of_decide_eq_true rfl) [] rfl rfl hl.1 rfl (Nat.le_of_ble_eq_true rfl) dX12_laysRange_204 ⟨Nat.le_of_ble_eq_true rfl, Nat.le_of_ble_eq_true rfl⟩ [] (of_decide_eq_true rfl) (of_decide_eq_true rfl) rfl rfl rfl (fun H locs hP hD hS => ?_)
      refine lv_lload hx hb dX12_laysRange_207 (lv_at hl 1 rfl) ?_
      refine lv_lload hx hb dX12_laysRange_209 (lv_at hl 0 rfl) ?_
      obtain ⟨o_63, hqo_63, hfn⟩ := zb_s hfn
      refine zcSl (rest := [.long o_59, .int p1, .ref (a0 32)]) (pc' := 214) (ws' := [(h0, .inr (12, zO a0 b0 c0)), zVi (a0 19) k1 28 f1, zVi (a0 20) k2 28 f2, zVi (a0 21) k3 28 f3, zVl (a0 31) k4 14 (vp_updL f4 p1.toNatClampNeg o_54), zVl (a0 22) k5 28 f5, zVl (a0 23) k6 28 f6, zVl (a0 32) k7 14 f7]) hP hK hD hS hA ⟨hx, hb, hml, hown, hts⟩ (zf_X12_greater l dC dI o_38 o_42 o_63 hqo_63 H.size) (va_cwS 2 hts gX12_laysRange_X12_greater rfl rfl rfl zhd_X12_greater.2 ⟨Nat.le_of_ble_eq_true rfl, Nat.le_of_ble_eq_true rfl⟩) [] rfl (of_decide_eq_true rfl) [] rfl rfl hl.1 rfl (Nat.le_of_ble_eq_true rfl) dX12_laysRange_211 ⟨Nat.le_of_ble_eq_true rfl, Nat.le_of_ble_eq_true rfl⟩ [] (of_decide_eq_true rfl) (of_decide_eq_true rfl) rfl rfl rfl (fun H locs hP hD hS => ?_)
      obtain ⟨o_67, hqo_67, hfn⟩ := zb_s hfn
      refine zcSl (rest := [.int p1, .ref (a0 32)]) (pc' := 217) (ws' := [(h0, .inr (12, zO a0 b0 c0)), zVi (a0 19) k1 28 f1, zVi (a0 20) k2 28 f2, zVi (a0 21) k3 28 f3, zVl (a0 31) k4 14 (vp_updL f4 p1.toNatClampNeg o_54), zVl (a0 22) k5 28 f5, zVl (a0 23) k6 28 f6, zVl (a0 32) k7 14 f7]) hP hK hD hS hA ⟨hx, hb, hml, hown, hts⟩ (zf_X12_greater l dC dI o_59 o_63 o_67 hqo_67 H.size) (va_cwS 2 hts gX12_laysRange_X12_greater rfl rfl rfl zhd_X12_greater.2 ⟨Nat.le_of_ble_eq_true rfl, Nat.le_of_ble_eq_true rfl⟩) [] rfl (of_decide_eq_true rfl) [] rfl rfl hl.1 rfl (Nat.le_of_ble_eq_true rfl) dX12_laysRange_214 ⟨Nat.le_of_ble_eq_true rfl, Nat.le_of_ble_eq_true rfl⟩ [] (of_decide_eq_true rfl) (of_decide_eq_true rfl) rfl rfl rfl (fun H locs hP hD hS => ?_)
      refine va_last hx hb hK hP hD hS 7 6 rfl rfl h_58 dX12_laysRange_217 (fun H locs hP hD hS => ?_)
      have hP : va_P (dC, dI) vwCl [(h0, .inr (12, zO a0 b0 c0)), zVi (a0 19) k1 28 f1, zVi (a0 20) k2 28 f2, zVi (a0 21) k3 28 f3, zVl (a0 31) k4 14 (vp_updL f4 p1.toNatClampNeg o_54), zVl (a0 22) k5 28 f5, zVl (a0 23) k6 28 f6, zVl (a0 32) k7 14 (vp_updL f7 p1.toNatClampNeg o_67)] H := hP
      have hD := zDW hD hP rfl
      refine lv_goto (tgt := 260) hx hb dX12_laysRange_218 (of_decide_eq_true rfl) ?_
      have ho := Option.some.inj hfn
      subst ho
      exact zrv hx hb hr hK hP hD hS hQ trivial hlocks dX12_laysRange_260
    have hfn := (if_pos c_19).symm.trans hfn
    refine lv_aload_n hx hb dX12_laysRange_96 rfl (lv_at hl 4 rfl) ?_
    refine va_get (D := (dC, dI)) (ci := 12) (v := .ref (a0 31)) (C := RX12) (T := TX12) (N := 67) hx hb hts zn_X12_laysRange_X12 hown hK hP 0 rfl rfl 31 (of_decide_eq_true rfl) (hts (.fieldLink RX12 106 "ShortEnoughModel" "least" "[J") zw_X12_laysRange_1102) (fun _ h9 => h9) rfl dX12_laysRange_97 ?_
    refine lv_iload_n hx hb dX12_laysRange_100 rfl (lv_at hl 5 rfl) ?_
    refine lv_lload_n hx hb dX12_laysRange_101 rfl (lv_at hl 3 rfl) ?_
    refine lv_lload hx hb dX12_laysRange_102 (lv_at hl 0 rfl) ?_
    refine lv_lsub hx hb dX12_laysRange_104 ?_
    obtain ⟨h_71, hfn⟩ := zg_s hfn
    refine va_last hx hb hK hP hD hS 4 3 rfl rfl h_71 dX12_laysRange_105 (fun H locs hP hD hS => ?_)
    have hP : va_P (dC, dI) vwCl [(h0, .inr (12, zO a0 b0 c0)), zVi (a0 19) k1 28 f1, zVi (a0 20) k2 28 f2, zVi (a0 21) k3 28 f3, zVl (a0 31) k4 14 (vp_updL f4 p1.toNatClampNeg (o_3 - o_15)), zVl (a0 22) k5 28 f5, zVl (a0 23) k6 28 f6, zVl (a0 32) k7 14 f7] H := hP
    have hD := zDW hD hP rfl
    refine lv_aload_n hx hb dX12_laysRange_106 rfl (lv_at hl 4 rfl) ?_
    refine va_get (D := (dC, dI)) (ci := 12) (v := .ref (a0 32)) (C := RX12) (T := TX12) (N := 67) hx hb hts zn_X12_laysRange_X12 hown hK hP 0 rfl rfl 32 (of_decide_eq_true rfl) (hts (.fieldLink RX12 109 "ShortEnoughModel" "greatest" "[J") zw_X12_laysRange_1103) (fun _ h9 => h9) rfl dX12_laysRange_107 ?_
    refine lv_iload_n hx hb dX12_laysRange_110 rfl (lv_at hl 5 rfl) ?_
    refine lv_lload hx hb dX12_laysRange_111 (lv_at hl 2 rfl) ?_
    refine lv_lload hx hb dX12_laysRange_113 (lv_at hl 1 rfl) ?_
    refine lv_lsub hx hb dX12_laysRange_115 ?_
    refine va_last hx hb hK hP hD hS 7 6 rfl rfl h_71 dX12_laysRange_116 (fun H locs hP hD hS => ?_)
    have hP : va_P (dC, dI) vwCl [(h0, .inr (12, zO a0 b0 c0)), zVi (a0 19) k1 28 f1, zVi (a0 20) k2 28 f2, zVi (a0 21) k3 28 f3, zVl (a0 31) k4 14 (vp_updL f4 p1.toNatClampNeg (o_3 - o_15)), zVl (a0 22) k5 28 f5, zVl (a0 23) k6 28 f6, zVl (a0 32) k7 14 (vp_updL f7 p1.toNatClampNeg (o_7 - o_11))] H := hP
    have hD := zDW hD hP rfl
    refine lv_goto (tgt := 260) hx hb dX12_laysRange_117 (of_decide_eq_true rfl) ?_
    have ho := Option.some.inj hfn
    subst ho
    exact zrv hx hb hr hK hP hD hS hQ trivial hlocks dX12_laysRange_260
  have hfn := (if_pos c_2).symm.trans hfn
  refine lv_iload_n hx hb dX12_laysRange_9 rfl (lv_at hl 1 rfl) ?_
  refine lv_aload_n hx hb dX12_laysRange_10 rfl (lv_at hl 0 rfl) ?_
  refine va_get (D := (dC, dI)) (ci := 12) (v := .int (b0 33)) (C := RX12) (T := TX12) (N := 67) hx hb hts zn_X12_laysRange_X12 hown hK hP 0 rfl rfl 33 (of_decide_eq_true rfl) (hts (.fieldLink RX12 112 "ShortEnoughModel" "wideNumber" "I") zw_X12_laysRange_1104) (fun _ h9 => h9) rfl dX12_laysRange_11 ?_
  obtain ⟨j_72, ej_72, hfn⟩ := zj_g hfn
  have jp_72 : ∀ (s_72 : Int64) (H : Heap) (locs : List Loc) (ls : Array Slot), j_72 s_72 = some o → va_P (dC, dI) vwCl [(h0, .inr (12, zO a0 b0 c0)), zVi (a0 19) k1 28 f1, zVi (a0 20) k2 28 f2, zVi (a0 21) k3 28 f3, zVl (a0 31) k4 14 f4, zVl (a0 22) k5 28 f5, zVl (a0 23) k6 28 f6, zVl (a0 32) k7 14 f7] H → va_D A [(h0, .inr (12, zO a0 b0 c0)), zVi (a0 19) k1 28 f1, zVi (a0 20) k2 28 f2, zVi (a0 21) k3 28 f3, zVl (a0 31) k4 14 f4, zVl (a0 22) k5 28 f5, zVl (a0 23) k6 28 f6, zVl (a0 32) k7 14 f7] → va_S A s.heap H locs → lv_has ls 18 [(0, .ref h0), (1, .int p1)] → W p l e (headSpec wsX12_laysRange ({ frames := 3, cells := 0, slots := 0, locals := 76 })).room s m ([.ref h0, .int p1] : List Value).toArray below meth c H locs 0 0 Q (F0 m 25 ls [.long s_72]) := by
    intro s_72 H locs ls hfn hP hD hS hl
    have hfn := zj_s ej_72 hfn
    refine lv_lstore_n (lv' := [(2, .long s_72), (0, .ref h0), (1, .int p1)]) hx hb dX12_laysRange_25 rfl hl (of_decide_eq_true rfl) rfl (fun ls hl => ?_)
    refine lv_aload_n hx hb dX12_laysRange_26 rfl (lv_at hl 1 rfl) ?_
    refine va_get (D := (dC, dI)) (ci := 12) (v := .ref (a0 31)) (C := RX12) (T := TX12) (N := 67) hx hb hts zn_X12_laysRange_X12 hown hK hP 0 rfl rfl 31 (of_decide_eq_true rfl) (hts (.fieldLink RX12 106 "ShortEnoughModel" "least" "[J") zw_X12_laysRange_1102) (fun _ h9 => h9) rfl dX12_laysRange_27 ?_
    refine lv_iload_n hx hb dX12_laysRange_30 rfl (lv_at hl 2 rfl) ?_
    refine lv_aload_n hx hb dX12_laysRange_31 rfl (lv_at hl 1 rfl) ?_
    refine va_get (D := (dC, dI)) (ci := 12) (v := .ref (a0 22)) (C := RX12) (T := TX12) (N := 67) hx hb hts zn_X12_laysRange_X12 hown hK hP 0 rfl rfl 22 (of_decide_eq_true rfl) (hts (.fieldLink RX12 77 "ShortEnoughModel" "firstV" "[J") zw_X12_laysRange_1106) (fun _ h9 => h9) rfl dX12_laysRange_32 ?_
    refine lv_iload_n hx hb dX12_laysRange_35 rfl (lv_at hl 2 rfl) ?_
    obtain ⟨h_73, hfn⟩ := zg_s hfn
    refine va_lald hx hb hK hP 5 4 rfl rfl h_73 dX12_laysRange_36 ?_
    refine lv_lload_n hx hb dX12_laysRange_37 rfl (lv_at hl 0 rfl) ?_
    refine lv_lsub hx hb dX12_laysRange_38 ?_
    obtain ⟨h_74, hfn⟩ := zg_s hfn
    refine va_last hx hb hK hP hD hS 4 3 rfl rfl h_74 dX12_laysRange_39 (fun H locs hP hD hS => ?_)
    have hP : va_P (dC, dI) vwCl [(h0, .inr (12, zO a0 b0 c0)), zVi (a0 19) k1 28 f1, zVi (a0 20) k2 28 f2, zVi (a0 21) k3 28 f3, zVl (a0 31) k4 14 (vp_updL f4 p1.toNatClampNeg ((f5 p1.toNatClampNeg) - s_72)), zVl (a0 22) k5 28 f5, zVl (a0 23) k6 28 f6, zVl (a0 32) k7 14 f7] H := hP
    have hD := zDW hD hP rfl
    refine lv_aload_n hx hb dX12_laysRange_40 rfl (lv_at hl 1 rfl) ?_
    refine va_get (D := (dC, dI)) (ci := 12) (v := .ref (a0 32)) (C := RX12) (T := TX12) (N := 67) hx hb hts zn_X12_laysRange_X12 hown hK hP 0 rfl rfl 32 (of_decide_eq_true rfl) (hts (.fieldLink RX12 109 "ShortEnoughModel" "greatest" "[J") zw_X12_laysRange_1103) (fun _ h9 => h9) rfl dX12_laysRange_41 ?_
    refine lv_iload_n hx hb dX12_laysRange_44 rfl (lv_at hl 2 rfl) ?_
    refine lv_aload_n hx hb dX12_laysRange_45 rfl (lv_at hl 1 rfl) ?_
    refine va_get (D := (dC, dI)) (ci := 12) (v := .ref (a0 23)) (C := RX12) (T := TX12) (N := 67) hx hb hts zn_X12_laysRange_X12 hown hK hP 0 rfl rfl 23 (of_decide_eq_true rfl) (hts (.fieldLink RX12 81 "ShortEnoughModel" "secondV" "[J") zw_X12_laysRange_1107) (fun _ h9 => h9) rfl dX12_laysRange_46 ?_
    refine lv_iload_n hx hb dX12_laysRange_49 rfl (lv_at hl 2 rfl) ?_
    refine va_lald hx hb hK hP 6 5 rfl rfl h_73 dX12_laysRange_50 ?_
    refine lv_lload_n hx hb dX12_laysRange_51 rfl (lv_at hl 0 rfl) ?_
    refine lv_ladd hx hb dX12_laysRange_52 ?_
    refine va_last hx hb hK hP hD hS 7 6 rfl rfl h_74 dX12_laysRange_53 (fun H locs hP hD hS => ?_)
    have hP : va_P (dC, dI) vwCl [(h0, .inr (12, zO a0 b0 c0)), zVi (a0 19) k1 28 f1, zVi (a0 20) k2 28 f2, zVi (a0 21) k3 28 f3, zVl (a0 31) k4 14 (vp_updL f4 p1.toNatClampNeg ((f5 p1.toNatClampNeg) - s_72)), zVl (a0 22) k5 28 f5, zVl (a0 23) k6 28 f6, zVl (a0 32) k7 14 (vp_updL f7 p1.toNatClampNeg ((f6 p1.toNatClampNeg) + s_72))] H := hP
    have hD := zDW hD hP rfl
    have ho := Option.some.inj hfn
    subst ho
    exact zrv hx hb hr hK hP hD hS hQ trivial hlocks dX12_laysRange_54
  refine lv_icmp_ne (tgt := 24) hx hb dX12_laysRange_14 (of_decide_eq_true rfl) (fun c_75 => ?_) (fun c_75 => ?_)
  · have hfn := (if_neg c_75).symm.trans hfn
    refine lv_lconst (v := 0) hx hb dX12_laysRange_24 (by decide +kernel) ?_
    exact jp_72 0 s.heap [] ls hfn hP hD hS (lv_sub hl [0, 1] rfl)
  have hfn := (if_pos c_75).symm.trans hfn
  refine lv_aload_n hx hb dX12_laysRange_17 rfl (lv_at hl 0 rfl) ?_
  refine va_get (D := (dC, dI)) (ci := 12) (v := .long (c0 34)) (C := RX12) (T := TX12) (N := 67) hx hb hts zn_X12_laysRange_X12 hown hK hP 0 rfl rfl 34 (of_decide_eq_true rfl) (hts (.fieldLink RX12 115 "ShortEnoughModel" "wideBy" "J") zw_X12_laysRange_1105) (fun _ h9 => h9) rfl dX12_laysRange_18 ?_
  refine lv_goto (tgt := 25) hx hb dX12_laysRange_21 (of_decide_eq_true rfl) ?_
  exact jp_72 (c0 34) s.heap [] ls hfn hP hD hS (lv_sub hl [0, 1] rfl)
theorem zn_X12_mostOf_X12 : ∀ w ∈ wsX120, w ∈ wsX12_mostOf := fun _ h => List.mem_cons_of_mem _ (List.mem_append_right _ h)
theorem zw_X12_mostOf_1109 : Cond.fieldLink RX12 106 "ShortEnoughModel" "least" "[J" ∈ wsX12_mostOf := List.mem_of_getElem? (i := 1) (by decide +kernel)
theorem zw_X12_mostOf_1110 : Cond.fieldLink RX12 109 "ShortEnoughModel" "greatest" "[J" ∈ wsX12_mostOf := List.mem_of_getElem? (i := 2) (by decide +kernel)
set_option maxHeartbeats 4000000 in
set_option maxRecDepth 100000 in
theorem zf_X12_mostOf (l : Launch) (dC : Nat → ClassId) (dI : Nat → Nat → Nat) (h0 : Nat) (p1 : Int32) (a0 : Nat → Nat) (b0 : Nat → Int32) (c0 : Nat → Int64) (k1 : Nat) (f1 : Nat → Int64) (k2 : Nat) (f2 : Nat → Int64) (o : Int64) (hfn : fn_X12_mostOf p1 f1 f2 = some o) (sz : Nat) : zMl l yX12_mostOf wsX12_mostOf ({ frames := 1, cells := 0, slots := 0, locals := 23 }) (dC, dI) vwCl [.ref h0, .int p1] [(h0, .inr (12, zO a0 b0 c0)), zVl (a0 31) k1 14 f1, zVl (a0 32) k2 14 f2] [(k1, .long), (k2, .long)] (fun r _ => r = o) [(h0, .inr (12, zO a0 b0 c0)), zVl (a0 31) k1 14 f1, zVl (a0 32) k2 14 f2] [(k1, .long), (k2, .long)] sz := by
  refine zgol (cc := cX12_mostOf) (maxL := 2) (ret := (some .long)) (C0 := RX12) (lv0 := [(0, .ref h0), (1, .int p1)]) zpl_X12 rfl rfl rfl (Nat.le_of_ble_eq_true rfl) ?_
  intro p e s m below meth c A ls Q hx hb hr hts hown hlocks hml hP hK hD hA hS hl hQ
  unfold fn_X12_mostOf at hfn
  refine lv_aload_n hx hb dX12_mostOf_0 rfl (lv_at hl 0 rfl) ?_
  refine va_get (D := (dC, dI)) (ci := 12) (v := .ref (a0 31)) (C := RX12) (T := TX12) (N := 67) hx hb hts zn_X12_mostOf_X12 hown hK hP 0 rfl rfl 31 (of_decide_eq_true rfl) (hts (.fieldLink RX12 106 "ShortEnoughModel" "least" "[J") zw_X12_mostOf_1109) (fun _ h9 => h9) rfl dX12_mostOf_1 ?_
  refine lv_iload_n hx hb dX12_mostOf_4 rfl (lv_at hl 1 rfl) ?_
  obtain ⟨h_1, hfn⟩ := zg_s hfn
  refine va_lald hx hb hK hP 1 0 rfl rfl h_1 dX12_mostOf_5 ?_
  obtain ⟨o_2, hqo_2, hfn⟩ := zb_s hfn
  refine zcSl (rest := []) (pc' := 9) (ws' := [(h0, .inr (12, zO a0 b0 c0)), zVl (a0 31) k1 14 f1, zVl (a0 32) k2 14 f2]) hP hK hD hS hA ⟨hx, hb, hml, hown, hts⟩ (zf_X12_amount l dC dI (f1 p1.toNatClampNeg) o_2 hqo_2 s.heap.size) (va_cwS 1 hts gX12_mostOf_X12_amount rfl rfl rfl zhd_X12_amount.2 ⟨Nat.le_of_ble_eq_true rfl, Nat.le_of_ble_eq_true rfl⟩) [] rfl (of_decide_eq_true rfl) [] rfl rfl hl.1 rfl (Nat.le_of_ble_eq_true rfl) dX12_mostOf_6 ⟨Nat.le_of_ble_eq_true rfl, Nat.le_of_ble_eq_true rfl⟩ [] (of_decide_eq_true rfl) (of_decide_eq_true rfl) rfl rfl rfl (fun H locs hP hD hS => ?_)
  refine lv_aload_n hx hb dX12_mostOf_9 rfl (lv_at hl 0 rfl) ?_
  refine va_get (D := (dC, dI)) (ci := 12) (v := .ref (a0 32)) (C := RX12) (T := TX12) (N := 67) hx hb hts zn_X12_mostOf_X12 hown hK hP 0 rfl rfl 32 (of_decide_eq_true rfl) (hts (.fieldLink RX12 109 "ShortEnoughModel" "greatest" "[J") zw_X12_mostOf_1110) (fun _ h9 => h9) rfl dX12_mostOf_10 ?_
  refine lv_iload_n hx hb dX12_mostOf_13 rfl (lv_at hl 1 rfl) ?_
  refine va_lald hx hb hK hP 2 1 rfl rfl h_1 dX12_mostOf_14 ?_
  obtain ⟨o_6, hqo_6, hfn⟩ := zb_s hfn
  refine zcSl (rest := [.long o_2]) (pc' := 18) (ws' := [(h0, .inr (12, zO a0 b0 c0)), zVl (a0 31) k1 14 f1, zVl (a0 32) k2 14 f2]) hP hK hD hS hA ⟨hx, hb, hml, hown, hts⟩ (zf_X12_amount l dC dI (f2 p1.toNatClampNeg) o_6 hqo_6 H.size) (va_cwS 1 hts gX12_mostOf_X12_amount rfl rfl rfl zhd_X12_amount.2 ⟨Nat.le_of_ble_eq_true rfl, Nat.le_of_ble_eq_true rfl⟩) [] rfl (of_decide_eq_true rfl) [] rfl rfl hl.1 rfl (Nat.le_of_ble_eq_true rfl) dX12_mostOf_15 ⟨Nat.le_of_ble_eq_true rfl, Nat.le_of_ble_eq_true rfl⟩ [] (of_decide_eq_true rfl) (of_decide_eq_true rfl) rfl rfl rfl (fun H locs hP hD hS => ?_)
  obtain ⟨o_10, hqo_10, hfn⟩ := zb_s hfn
  refine zcSl (rest := []) (pc' := 21) (ws' := [(h0, .inr (12, zO a0 b0 c0)), zVl (a0 31) k1 14 f1, zVl (a0 32) k2 14 f2]) hP hK hD hS hA ⟨hx, hb, hml, hown, hts⟩ (zf_X12_greater l dC dI o_2 o_6 o_10 hqo_10 H.size) (va_cwS 2 hts gX12_mostOf_X12_greater rfl rfl rfl zhd_X12_greater.2 ⟨Nat.le_of_ble_eq_true rfl, Nat.le_of_ble_eq_true rfl⟩) [] rfl (of_decide_eq_true rfl) [] rfl rfl hl.1 rfl (Nat.le_of_ble_eq_true rfl) dX12_mostOf_18 ⟨Nat.le_of_ble_eq_true rfl, Nat.le_of_ble_eq_true rfl⟩ [] (of_decide_eq_true rfl) (of_decide_eq_true rfl) rfl rfl rfl (fun H locs hP hD hS => ?_)
  have ho := Option.some.inj hfn
  subst ho
  exact zrl hx hb hr hK hP hD hS hQ rfl hlocks dX12_mostOf_21
theorem zn_X12_isGreatPart_X12 : ∀ w ∈ wsX120, w ∈ wsX12_isGreatPart := fun _ h => List.mem_cons_of_mem _ (List.mem_append_right _ h)
theorem zw_X12_isGreatPart_1112 : Cond.fieldLink RX12 118 "ShortEnoughModel" "isGreat" "[Z" ∈ wsX12_isGreatPart := List.mem_of_getElem? (i := 1) (by decide +kernel)
set_option maxHeartbeats 4000000 in
set_option maxRecDepth 100000 in
theorem zf_X12_isGreatPart (l : Launch) (dC : Nat → ClassId) (dI : Nat → Nat → Nat) (h0 : Nat) (p1 : Int32) (a0 : Nat → Nat) (b0 : Nat → Int32) (c0 : Nat → Int64) (k1 : Nat) (f1 : Nat → Int32) (o : Int32) (hfn : fn_X12_isGreatPart p1 f1 = some o) (sz : Nat) : zMi l yX12_isGreatPart wsX12_isGreatPart ({ frames := 0, cells := 0, slots := 0, locals := 0 }) (dC, dI) vwCl [.ref h0, .int p1] [(h0, .inr (12, zO a0 b0 c0)), zVi (a0 35) k1 14 f1] [(k1, .boolean)] (fun r _ => r = o ∧ narrow .boolean (.int o) = .int o) [(h0, .inr (12, zO a0 b0 c0)), zVi (a0 35) k1 14 f1] [(k1, .boolean)] sz := by
  refine zgoi (cc := cX12_isGreatPart) (maxL := 2) (ret := (some .boolean)) (C0 := RX12) (lv0 := [(0, .ref h0), (1, .int p1)]) zpl_X12 rfl rfl rfl (Nat.le_of_ble_eq_true rfl) ?_
  intro p e s m below meth c A ls Q hx hb hr hts hown hlocks hml hP hK hD hA hS hl hQ
  unfold fn_X12_isGreatPart at hfn
  refine lv_iload_n hx hb dX12_isGreatPart_0 rfl (lv_at hl 1 rfl) ?_
  refine lv_iconst (v := (-1)) hx hb dX12_isGreatPart_1 zci_m1 ?_
  refine lv_icmp_eq (tgt := 18) hx hb dX12_isGreatPart_2 (of_decide_eq_true rfl) (fun c_1 => ?_) (fun c_1 => ?_)
  · have hfn := (if_pos c_1).symm.trans hfn
    refine lv_iconst (v := 0) hx hb dX12_isGreatPart_18 zci_0 ?_
    have ho := Option.some.inj hfn
    subst ho
    exact zrz hx hb hr rfl hK hP hD hS hQ ⟨rfl, zB0⟩ hlocks dX12_isGreatPart_19
  have hfn := (if_neg c_1).symm.trans hfn
  refine lv_aload_n hx hb dX12_isGreatPart_5 rfl (lv_at hl 0 rfl) ?_
  refine va_get (D := (dC, dI)) (ci := 12) (v := .ref (a0 35)) (C := RX12) (T := TX12) (N := 67) hx hb hts zn_X12_isGreatPart_X12 hown hK hP 0 rfl rfl 35 (of_decide_eq_true rfl) (hts (.fieldLink RX12 118 "ShortEnoughModel" "isGreat" "[Z") zw_X12_isGreatPart_1112) (fun _ h9 => h9) rfl dX12_isGreatPart_6 ?_
  refine lv_iload_n hx hb dX12_isGreatPart_9 rfl (lv_at hl 1 rfl) ?_
  obtain ⟨h_2, hfn⟩ := zg_s hfn
  refine va_zald hx hb hK hP 1 0 rfl rfl h_2 dX12_isGreatPart_10 ?_
  refine lv_if_eq (tgt := 18) hx hb dX12_isGreatPart_11 (of_decide_eq_true rfl) (fun c_3 => ?_) (fun c_3 => ?_)
  · have hfn := (if_pos c_3).symm.trans hfn
    refine lv_iconst (v := 0) hx hb dX12_isGreatPart_18 zci_0 ?_
    have ho := Option.some.inj hfn
    subst ho
    exact zrz hx hb hr rfl hK hP hD hS hQ ⟨rfl, zB0⟩ hlocks dX12_isGreatPart_19
  have hfn := (if_neg c_3).symm.trans hfn
  refine lv_iconst (v := 1) hx hb dX12_isGreatPart_14 zci_1 ?_
  refine lv_goto (tgt := 19) hx hb dX12_isGreatPart_15 (of_decide_eq_true rfl) ?_
  have ho := Option.some.inj hfn
  subst ho
  exact zrz hx hb hr rfl hK hP hD hS hQ ⟨rfl, zB1⟩ hlocks dX12_isGreatPart_19
theorem zn_X12_range_X12 : ∀ w ∈ wsX120, w ∈ wsX12_range := fun _ h => List.mem_cons_of_mem _ (List.mem_append_right _ h)
theorem zw_X12_range_1114 : Cond.fieldLink RX12 112 "ShortEnoughModel" "wideNumber" "I" ∈ wsX12_range := List.mem_of_getElem? (i := 2) (by decide +kernel)
theorem zw_X12_range_1115 : Cond.fieldLink RX12 118 "ShortEnoughModel" "isGreat" "[Z" ∈ wsX12_range := List.mem_of_getElem? (i := 3) (by decide +kernel)
theorem zw_X12_range_1116 : Cond.fieldLink RX12 71 "ShortEnoughModel" "first" "[I" ∈ wsX12_range := List.mem_of_getElem? (i := 4) (by decide +kernel)
theorem zw_X12_range_1117 : Cond.fieldLink RX12 74 "ShortEnoughModel" "second" "[I" ∈ wsX12_range := List.mem_of_getElem? (i := 5) (by decide +kernel)
theorem zw_X12_range_1118 : Cond.constantLong RX12 294 (1000000000) ∈ wsX12_range := List.mem_of_getElem? (i := 6) (by decide +kernel)
theorem zw_X12_range_1119 : Cond.fieldLink RX12 106 "ShortEnoughModel" "least" "[J" ∈ wsX12_range := List.mem_of_getElem? (i := 8) (by decide +kernel)
theorem zw_X12_range_1120 : Cond.fieldLink RX12 109 "ShortEnoughModel" "greatest" "[J" ∈ wsX12_range := List.mem_of_getElem? (i := 7) (by decide +kernel)
theorem zw_X12_range_1121 : Cond.constantLong RX12 381 (-1000000000000000) ∈ wsX12_range := List.mem_of_getElem? (i := 1) (by decide +kernel)
set_option maxHeartbeats 4000000 in
set_option maxRecDepth 100000 in
theorem zf_X12_range (l : Launch) (dC : Nat → ClassId) (dI : Nat → Nat → Nat) (h0 : Nat) (p1 : Int32) (p2 : Int32) (a0 : Nat → Nat) (b0 : Nat → Int32) (c0 : Nat → Int64) (k1 : Nat) (f1 : Nat → Int32) (k2 : Nat) (f2 : Nat → Int32) (k3 : Nat) (f3 : Nat → Int32) (k4 : Nat) (f4 : Nat → Int32) (k5 : Nat) (f5 : Nat → Int32) (k6 : Nat) (f6 : Nat → Int64) (k7 : Nat) (f7 : Nat → Int64) (k8 : Nat) (f8 : Nat → Int64) (k9 : Nat) (f9 : Nat → Int64) (o : Int64 × Int32 × (Nat → Int32) × (Nat → Int64) × (Nat → Int64)) (hfn : fn_X12_range p1 p2 (b0 33) (c0 34) f1 f2 f3 f4 f5 f6 f7 f8 f9 = some o) (sz : Nat) : zMl l yX12_range wsX12_range ({ frames := 4, cells := 0, slots := 0, locals := 113 }) (dC, dI) vwCl [.ref h0, .int p1, .int p2] [(h0, .inr (12, zO a0 b0 c0)), zVi (a0 17) k1 2 f1, zVi (a0 20) k2 28 f2, zVi (a0 35) k3 14 f3, zVi (a0 21) k4 28 f4, zVi (a0 19) k5 28 f5, zVl (a0 31) k6 14 f6, zVl (a0 22) k7 28 f7, zVl (a0 23) k8 28 f8, zVl (a0 32) k9 14 f9] [(k1, .int), (k2, .int), (k3, .boolean), (k4, .int), (k5, .int), (k6, .long), (k7, .long), (k8, .long), (k9, .long)] (fun r _ => r = o.1) [(h0, .inr (12, zO a0 (zI b0 33 o.2.1) c0)), zVi (a0 17) k1 2 f1, zVi (a0 20) k2 28 f2, zVi (a0 35) k3 14 o.2.2.1, zVi (a0 21) k4 28 f4, zVi (a0 19) k5 28 f5, zVl (a0 31) k6 14 o.2.2.2.1, zVl (a0 22) k7 28 f7, zVl (a0 23) k8 28 f8, zVl (a0 32) k9 14 o.2.2.2.2] [(k1, .int), (k2, .int), (k3, .boolean), (k4, .int), (k5, .int), (k6, .long), (k7, .long), (k8, .long), (k9, .long)] sz := by
  refine zgol (cc := cX12_range) (maxL := 4) (ret := (some .long)) (C0 := RX12) (lv0 := [(0, .ref h0), (1, .int p1), (2, .int p2)]) zpl_X12 rfl rfl rfl (Nat.le_of_ble_eq_true rfl) ?_
  intro p e s m below meth c A ls Q hx hb hr hts hown hlocks hml hP hK hD hA hS hl hQ
  unfold fn_X12_range at hfn
  refine lv_aload_n hx hb dX12_range_0 rfl (lv_at hl 0 rfl) ?_
  refine lv_iload_n hx hb dX12_range_1 rfl (lv_at hl 1 rfl) ?_
  obtain ⟨o_1, hqo_1, hfn⟩ := zb_s hfn
  refine zcVb (ci := 12) (rest := []) (pc' := 5) (ws' := [(h0, .inr (12, zO a0 b0 c0)), zVi (a0 17) k1 2 f1, zVi (a0 20) k2 28 f2, zVi (a0 35) k3 14 f3, zVi (a0 21) k4 28 f4, zVi (a0 19) k5 28 f5, zVl (a0 31) k6 14 f6, zVl (a0 22) k7 28 f7, zVl (a0 23) k8 28 f8, zVl (a0 32) k9 14 f9]) hP hK hD hS hA ⟨hx, hb, hml, hown, hts⟩ (zf_X12_isNumber l dC dI h0 p1 a0 b0 c0 k1 f1 o_1 hqo_1 s.heap.size) (cwV 1 hts gX12_range_X12_isNumber rfl rfl rfl zhd_X12_isNumber ⟨Nat.le_of_ble_eq_true rfl, Nat.le_of_ble_eq_true rfl⟩) [0, 1] rfl (of_decide_eq_true rfl) [0] rfl rfl rfl rfl hl.1 rfl (Nat.le_of_ble_eq_true rfl) dX12_range_2 ⟨Nat.le_of_ble_eq_true rfl, Nat.le_of_ble_eq_true rfl⟩ [some 0, some 1] (of_decide_eq_true rfl) (of_decide_eq_true rfl) rfl rfl rfl (fun H locs hw_4n hP hD hS => ?_)
  refine lv_if_ne (tgt := 12) hx hb dX12_range_5 (of_decide_eq_true rfl) (fun c_5 => ?_) (fun c_5 => ?_)
  · have hfn := (if_neg c_5).symm.trans hfn
    refine lv_aload_n hx hb dX12_range_12 rfl (lv_at hl 0 rfl) ?_
    refine lv_iconst (v := (-1)) hx hb dX12_range_13 zci_m1 ?_
    refine va_put (D := (dC, dI)) (ci := 12) (v := .int (-1)) (ty := .int) (C := RX12) (T := TX12) (N := 67) hx hb hts zn_X12_range_X12 tyX12 tyX12_ok nmX12 hown hK hP hD hS 0 rfl rfl 33 (of_decide_eq_true rfl) (hts (.fieldLink RX12 112 "ShortEnoughModel" "wideNumber" "I") zw_X12_range_1114) (fun _ h9 => h9) rfl (tyX12_ok 33 (of_decide_eq_true rfl)) rfl rfl (Nat.le_of_ble_eq_true rfl) dX12_range_14 (fun H locs hP hD hS => ?_)
    have hP : va_P (dC, dI) vwCl [(h0, .inr (12, zO a0 (zI b0 33 (-1)) c0)), zVi (a0 17) k1 2 f1, zVi (a0 20) k2 28 f2, zVi (a0 35) k3 14 f3, zVi (a0 21) k4 28 f4, zVi (a0 19) k5 28 f5, zVl (a0 31) k6 14 f6, zVl (a0 22) k7 28 f7, zVl (a0 23) k8 28 f8, zVl (a0 32) k9 14 f9] H := hP
    have hD := zDW hD hP rfl
    refine lv_iconst (v := 0) hx hb dX12_range_17 zci_0 ?_
    refine lv_istore_n (lv' := [(3, .int 0), (0, .ref h0), (1, .int p1), (2, .int p2)]) hx hb dX12_range_18 rfl hl (of_decide_eq_true rfl) rfl (fun ls hl => ?_)
    obtain ⟨bd_6, ebd_6, hfn⟩ := zl_g hfn
    have lp_6 : ∀ (n : Nat) (s_6 : Int32 × (Nat → Int64) × (Nat → Int64) × (Nat → Int32)) (H : Heap) (locs : List Loc) (ls : Array Slot), zl bd_6 n s_6 = some o → va_P (dC, dI) vwCl [(h0, .inr (12, zO a0 (zI b0 33 (-1)) c0)), zVi (a0 17) k1 2 f1, zVi (a0 20) k2 28 f2, zVi (a0 35) k3 14 s_6.2.2.2, zVi (a0 21) k4 28 f4, zVi (a0 19) k5 28 f5, zVl (a0 31) k6 14 s_6.2.1, zVl (a0 22) k7 28 f7, zVl (a0 23) k8 28 f8, zVl (a0 32) k9 14 s_6.2.2.1] H → va_D A [(h0, .inr (12, zO a0 (zI b0 33 (-1)) c0)), zVi (a0 17) k1 2 f1, zVi (a0 20) k2 28 f2, zVi (a0 35) k3 14 s_6.2.2.2, zVi (a0 21) k4 28 f4, zVi (a0 19) k5 28 f5, zVl (a0 31) k6 14 s_6.2.1, zVl (a0 22) k7 28 f7, zVl (a0 23) k8 28 f8, zVl (a0 32) k9 14 s_6.2.2.1] → va_S A s.heap H locs → lv_has ls 4 [(3, .int s_6.1), (0, .ref h0), (1, .int p1), (2, .int p2)] → W p l e (headSpec wsX12_range ({ frames := 4, cells := 0, slots := 0, locals := 113 })).room s m ([.ref h0, .int p1, .int p2] : List Value).toArray below meth c H locs 0 0 Q (F0 m 19 ls []) := by
      intro n
      induction n with
      | zero => exact fun _ _ _ _ hfn => (zl_0 hfn).elim
      | succ n ih_6 =>
        intro s_6 H locs ls hfn hP hD hS hl
        have hfn := zl_s ebd_6 hfn
        refine lv_iload_n hx hb dX12_range_19 rfl (lv_at hl 0 rfl) ?_
        refine lv_iload_n hx hb dX12_range_20 rfl (lv_at hl 2 rfl) ?_
        refine lv_icmp_gt (tgt := 107) hx hb dX12_range_21 (of_decide_eq_true rfl) (fun c_7 => ?_) (fun c_7 => ?_)
        · have hfn := (if_pos c_7).symm.trans hfn
          refine lv_aload_n hx hb dX12_range_107 rfl (lv_at hl 1 rfl) ?_
          refine va_get (D := (dC, dI)) (ci := 12) (v := .ref (a0 35)) (C := RX12) (T := TX12) (N := 67) hx hb hts zn_X12_range_X12 hown hK hP 0 rfl rfl 35 (of_decide_eq_true rfl) (hts (.fieldLink RX12 118 "ShortEnoughModel" "isGreat" "[Z") zw_X12_range_1115) (fun _ h9 => h9) rfl dX12_range_108 ?_
          refine lv_iload_n hx hb dX12_range_111 rfl (lv_at hl 2 rfl) ?_
          obtain ⟨h_8, hfn⟩ := zg_s hfn
          refine va_zald hx hb hK hP 3 2 rfl rfl h_8 dX12_range_112 ?_
          refine lv_if_eq (tgt := 122) hx hb dX12_range_113 (of_decide_eq_true rfl) (fun c_9 => ?_) (fun c_9 => ?_)
          · have hfn := (if_pos c_9).symm.trans hfn
            refine lv_iload_n hx hb dX12_range_122 rfl (lv_at hl 3 rfl) ?_
            refine lv_if_eq (tgt := 135) hx hb dX12_range_123 (of_decide_eq_true rfl) (fun c_10 => ?_) (fun c_10 => ?_)
            · have hfn := (if_pos c_10).symm.trans hfn
              refine lv_aload_n hx hb dX12_range_135 rfl (lv_at hl 1 rfl) ?_
              refine va_get (D := (dC, dI)) (ci := 12) (v := .ref (a0 31)) (C := RX12) (T := TX12) (N := 67) hx hb hts zn_X12_range_X12 hown hK hP 0 rfl rfl 31 (of_decide_eq_true rfl) (hts (.fieldLink RX12 106 "ShortEnoughModel" "least" "[J") zw_X12_range_1119) (fun _ h9 => h9) rfl dX12_range_136 ?_
              refine lv_iload_n hx hb dX12_range_139 rfl (lv_at hl 2 rfl) ?_
              refine va_lald hx hb hK hP 6 5 rfl rfl h_8 dX12_range_140 ?_
              have ho := Option.some.inj hfn
              subst ho
              exact zrl hx hb hr hK hP hD hS hQ rfl hlocks dX12_range_141
            have hfn := (if_neg c_10).symm.trans hfn
            refine lv_aload_n hx hb dX12_range_126 rfl (lv_at hl 1 rfl) ?_
            refine va_get (D := (dC, dI)) (ci := 12) (v := .ref (a0 32)) (C := RX12) (T := TX12) (N := 67) hx hb hts zn_X12_range_X12 hown hK hP 0 rfl rfl 32 (of_decide_eq_true rfl) (hts (.fieldLink RX12 109 "ShortEnoughModel" "greatest" "[J") zw_X12_range_1120) (fun _ h9 => h9) rfl dX12_range_127 ?_
            refine lv_iload_n hx hb dX12_range_130 rfl (lv_at hl 2 rfl) ?_
            refine va_lald hx hb hK hP 9 8 rfl rfl h_8 dX12_range_131 ?_
            refine lv_goto (tgt := 141) hx hb dX12_range_132 (of_decide_eq_true rfl) ?_
            have ho := Option.some.inj hfn
            subst ho
            exact zrl hx hb hr hK hP hD hS hQ rfl hlocks dX12_range_141
          have hfn := (if_neg c_9).symm.trans hfn
          refine lv_ldc2 (v := (-1000000000000000)) hx hb hown (hts (.constantLong RX12 381 (-1000000000000000)) zw_X12_range_1121) dX12_range_116 ?_
          refine lv_goto (tgt := 141) hx hb dX12_range_119 (of_decide_eq_true rfl) ?_
          have ho := Option.some.inj hfn
          subst ho
          exact zrl hx hb hr hK hP hD hS hQ rfl hlocks dX12_range_141
        have hfn := (if_neg c_7).symm.trans hfn
        refine lv_aload_n hx hb dX12_range_24 rfl (lv_at hl 1 rfl) ?_
        refine va_get (D := (dC, dI)) (ci := 12) (v := .ref (a0 35)) (C := RX12) (T := TX12) (N := 67) hx hb hts zn_X12_range_X12 hown hK hP 0 rfl rfl 35 (of_decide_eq_true rfl) (hts (.fieldLink RX12 118 "ShortEnoughModel" "isGreat" "[Z") zw_X12_range_1115) (fun _ h9 => h9) rfl dX12_range_25 ?_
        refine lv_iload_n hx hb dX12_range_28 rfl (lv_at hl 0 rfl) ?_
        refine lv_aload_n hx hb dX12_range_29 rfl (lv_at hl 1 rfl) ?_
        refine lv_aload_n hx hb dX12_range_30 rfl (lv_at hl 1 rfl) ?_
        refine va_get (D := (dC, dI)) (ci := 12) (v := .ref (a0 20)) (C := RX12) (T := TX12) (N := 67) hx hb hts zn_X12_range_X12 hown hK hP 0 rfl rfl 20 (of_decide_eq_true rfl) (hts (.fieldLink RX12 71 "ShortEnoughModel" "first" "[I") zw_X12_range_1116) (fun _ h9 => h9) rfl dX12_range_31 ?_
        refine lv_iload_n hx hb dX12_range_34 rfl (lv_at hl 0 rfl) ?_
        obtain ⟨h_11, hfn⟩ := zg_s hfn
        refine va_iald hx hb hK hP 2 1 rfl rfl h_11 dX12_range_35 ?_
        obtain ⟨o_12, hqo_12, hfn⟩ := zb_s hfn
        refine zcVb (ci := 12) (rest := [.int s_6.1, .ref (a0 35)]) (pc' := 39) (ws' := [(h0, .inr (12, zO a0 (zI b0 33 (-1)) c0)), zVi (a0 17) k1 2 f1, zVi (a0 20) k2 28 f2, zVi (a0 35) k3 14 s_6.2.2.2, zVi (a0 21) k4 28 f4, zVi (a0 19) k5 28 f5, zVl (a0 31) k6 14 s_6.2.1, zVl (a0 22) k7 28 f7, zVl (a0 23) k8 28 f8, zVl (a0 32) k9 14 s_6.2.2.1]) hP hK hD hS hA ⟨hx, hb, hml, hown, hts⟩ (zf_X12_isGreatPart l dC dI h0 (f2 s_6.1.toNatClampNeg) a0 (zI b0 33 (-1)) c0 k3 s_6.2.2.2 o_12 hqo_12 H.size) (cwV 1 hts gX12_range_X12_isGreatPart rfl rfl rfl zhd_X12_isGreatPart ⟨Nat.le_of_ble_eq_true rfl, Nat.le_of_ble_eq_true rfl⟩) [0, 3] rfl (of_decide_eq_true rfl) [2] rfl rfl rfl rfl hl.1 rfl (Nat.le_of_ble_eq_true rfl) dX12_range_36 ⟨Nat.le_of_ble_eq_true rfl, Nat.le_of_ble_eq_true rfl⟩ [some 0, none, none, some 1] (of_decide_eq_true rfl) (of_decide_eq_true rfl) rfl rfl rfl (fun H locs hw_15n hP hD hS => ?_)
        obtain ⟨j_16, ej_16, hfn⟩ := zj_g hfn
        have jp_16 : ∀ (s_16 : Int32) (H : Heap) (locs : List Loc) (ls : Array Slot), j_16 s_16 = some o → va_P (dC, dI) vwCl [(h0, .inr (12, zO a0 (zI b0 33 (-1)) c0)), zVi (a0 17) k1 2 f1, zVi (a0 20) k2 28 f2, zVi (a0 35) k3 14 s_6.2.2.2, zVi (a0 21) k4 28 f4, zVi (a0 19) k5 28 f5, zVl (a0 31) k6 14 s_6.2.1, zVl (a0 22) k7 28 f7, zVl (a0 23) k8 28 f8, zVl (a0 32) k9 14 s_6.2.2.1] H → va_D A [(h0, .inr (12, zO a0 (zI b0 33 (-1)) c0)), zVi (a0 17) k1 2 f1, zVi (a0 20) k2 28 f2, zVi (a0 35) k3 14 s_6.2.2.2, zVi (a0 21) k4 28 f4, zVi (a0 19) k5 28 f5, zVl (a0 31) k6 14 s_6.2.1, zVl (a0 22) k7 28 f7, zVl (a0 23) k8 28 f8, zVl (a0 32) k9 14 s_6.2.2.1] → va_S A s.heap H locs → lv_has ls 4 [(3, .int s_6.1), (0, .ref h0), (1, .int p1), (2, .int p2)] → W p l e (headSpec wsX12_range ({ frames := 4, cells := 0, slots := 0, locals := 113 })).room s m ([.ref h0, .int p1, .int p2] : List Value).toArray below meth c H locs 0 0 Q (F0 m 60 ls [.int s_16, .int s_6.1, .ref (a0 35)]) := by
          intro s_16 H locs ls hfn hP hD hS hl
          have hfn := zj_s ej_16 hfn
          obtain ⟨h_17, hfn⟩ := zg_s hfn
          refine va_zast hx hb hK hP hD hS 3 2 rfl rfl h_17 dX12_range_60 (fun H locs hP hD hS => ?_)
          have hP : va_P (dC, dI) vwCl [(h0, .inr (12, zO a0 (zI b0 33 (-1)) c0)), zVi (a0 17) k1 2 f1, zVi (a0 20) k2 28 f2, zVi (a0 35) k3 14 (upd s_6.2.2.2 s_6.1.toNatClampNeg (vp_nar .boolean s_16)), zVi (a0 21) k4 28 f4, zVi (a0 19) k5 28 f5, zVl (a0 31) k6 14 s_6.2.1, zVl (a0 22) k7 28 f7, zVl (a0 23) k8 28 f8, zVl (a0 32) k9 14 s_6.2.2.1] H := hP
          have hD := zDW hD hP rfl
          refine lv_aload_n hx hb dX12_range_61 rfl (lv_at hl 1 rfl) ?_
          refine va_get (D := (dC, dI)) (ci := 12) (v := .ref (a0 35)) (C := RX12) (T := TX12) (N := 67) hx hb hts zn_X12_range_X12 hown hK hP 0 rfl rfl 35 (of_decide_eq_true rfl) (hts (.fieldLink RX12 118 "ShortEnoughModel" "isGreat" "[Z") zw_X12_range_1115) (fun _ h9 => h9) rfl dX12_range_62 ?_
          refine lv_iload_n hx hb dX12_range_65 rfl (lv_at hl 0 rfl) ?_
          refine va_zald hx hb hK hP 3 2 rfl rfl h_17 dX12_range_66 ?_
          refine lv_topi (fun x_18 ex_18 => ?_)
          have hfn := zn_s hfn ex_18
          refine lv_if_eq (tgt := 73) hx hb dX12_range_67 (of_decide_eq_true rfl) (fun c_19 => ?_) (fun c_19 => ?_)
          · have hfn := (if_pos c_19).symm.trans hfn
            refine lv_aload_n hx hb dX12_range_73 rfl (lv_at hl 1 rfl) ?_
            refine lv_iload_n hx hb dX12_range_74 rfl (lv_at hl 0 rfl) ?_
            obtain ⟨o_20, hqo_20, hfn⟩ := zb_s hfn
            refine zcVv (ci := 12) (rest := []) (pc' := 78) (ws' := [(h0, .inr (12, zO a0 (zI b0 33 (-1)) c0)), zVi (a0 17) k1 2 f1, zVi (a0 20) k2 28 f2, zVi (a0 35) k3 14 (upd s_6.2.2.2 s_6.1.toNatClampNeg (vp_nar .boolean s_16)), zVi (a0 21) k4 28 f4, zVi (a0 19) k5 28 f5, zVl (a0 31) k6 14 o_20.1, zVl (a0 22) k7 28 f7, zVl (a0 23) k8 28 f8, zVl (a0 32) k9 14 o_20.2]) hP hK hD hS hA ⟨hx, hb, hml, hown, hts⟩ (zf_X12_laysRange l dC dI h0 s_6.1 a0 (zI b0 33 (-1)) c0 k5 f5 k2 f2 k4 f4 k6 s_6.2.1 k7 f7 k8 f8 k9 s_6.2.2.1 o_20 hqo_20 H.size) (cwV 1 hts gX12_range_X12_laysRange rfl rfl rfl zhd_X12_laysRange ⟨Nat.le_of_ble_eq_true rfl, Nat.le_of_ble_eq_true rfl⟩) [0, 5, 2, 4, 6, 7, 8, 9] rfl (of_decide_eq_true rfl) [4, 1, 3, 5, 6, 7, 8] rfl rfl rfl rfl hl.1 rfl (Nat.le_of_ble_eq_true rfl) dX12_range_75 ⟨Nat.le_of_ble_eq_true rfl, Nat.le_of_ble_eq_true rfl⟩ [some 0, none, some 2, none, some 3, some 1, some 4, some 5, some 6, some 7] (of_decide_eq_true rfl) (of_decide_eq_true rfl) rfl rfl rfl (fun H locs hP hD hS => ?_)
            refine lv_aload_n hx hb dX12_range_78 rfl (lv_at hl 1 rfl) ?_
            refine va_get (D := (dC, dI)) (ci := 12) (v := .ref (a0 35)) (C := RX12) (T := TX12) (N := 67) hx hb hts zn_X12_range_X12 hown hK hP 0 rfl rfl 35 (of_decide_eq_true rfl) (hts (.fieldLink RX12 118 "ShortEnoughModel" "isGreat" "[Z") zw_X12_range_1115) (fun _ h9 => h9) rfl dX12_range_79 ?_
            refine lv_iload_n hx hb dX12_range_82 rfl (lv_at hl 0 rfl) ?_
            refine lv_aload_n hx hb dX12_range_83 rfl (lv_at hl 1 rfl) ?_
            refine lv_iload_n hx hb dX12_range_84 rfl (lv_at hl 0 rfl) ?_
            obtain ⟨o_24, hqo_24, hfn⟩ := zb_s hfn
            refine zcVl (ci := 12) (rest := [.int s_6.1, .ref (a0 35)]) (pc' := 88) (ws' := [(h0, .inr (12, zO a0 (zI b0 33 (-1)) c0)), zVi (a0 17) k1 2 f1, zVi (a0 20) k2 28 f2, zVi (a0 35) k3 14 (upd s_6.2.2.2 s_6.1.toNatClampNeg (vp_nar .boolean s_16)), zVi (a0 21) k4 28 f4, zVi (a0 19) k5 28 f5, zVl (a0 31) k6 14 o_20.1, zVl (a0 22) k7 28 f7, zVl (a0 23) k8 28 f8, zVl (a0 32) k9 14 o_20.2]) hP hK hD hS hA ⟨hx, hb, hml, hown, hts⟩ (zf_X12_mostOf l dC dI h0 s_6.1 a0 (zI b0 33 (-1)) c0 k6 o_20.1 k9 o_20.2 o_24 hqo_24 H.size) (cwV 1 hts gX12_range_X12_mostOf rfl rfl rfl zhd_X12_mostOf ⟨Nat.le_of_ble_eq_true rfl, Nat.le_of_ble_eq_true rfl⟩) [0, 6, 9] rfl (of_decide_eq_true rfl) [5, 8] rfl rfl rfl rfl hl.1 rfl (Nat.le_of_ble_eq_true rfl) dX12_range_85 ⟨Nat.le_of_ble_eq_true rfl, Nat.le_of_ble_eq_true rfl⟩ [some 0, none, none, none, none, none, some 1, none, none, some 2] (of_decide_eq_true rfl) (of_decide_eq_true rfl) rfl rfl rfl (fun H locs hP hD hS => ?_)
            refine lv_ldc2 (v := 1000000000) hx hb hown (hts (.constantLong RX12 294 (1000000000)) zw_X12_range_1118) dX12_range_88 ?_
            refine W.lcmp hx hb dX12_range_91 ?_
            refine lv_if_le (tgt := 99) hx hb dX12_range_92 (of_decide_eq_true rfl) (fun c_28 => ?_) (fun c_28 => ?_)
            · have hfn := (if_pos c_28).symm.trans hfn
              refine lv_iconst (v := 0) hx hb dX12_range_99 zci_0 ?_
              refine va_zast hx hb hK hP hD hS 3 2 rfl rfl h_17 dX12_range_100 (fun H locs hP hD hS => ?_)
              obtain ⟨g_29, eg_29⟩ : ∃ g : Nat → Int32, g = (upd (upd s_6.2.2.2 s_6.1.toNatClampNeg (vp_nar .boolean s_16)) s_6.1.toNatClampNeg (vp_nar .boolean 0)) := ⟨_, rfl⟩
              have hfn := zn_s hfn eg_29
              have hP : va_P (dC, dI) vwCl [(h0, .inr (12, zO a0 (zI b0 33 (-1)) c0)), zVi (a0 17) k1 2 f1, zVi (a0 20) k2 28 f2, zVi (a0 35) k3 14 g_29, zVi (a0 21) k4 28 f4, zVi (a0 19) k5 28 f5, zVl (a0 31) k6 14 o_20.1, zVl (a0 22) k7 28 f7, zVl (a0 23) k8 28 f8, zVl (a0 32) k9 14 o_20.2] H := by rw [eg_29]; exact hP
              have hD : va_D A [(h0, .inr (12, zO a0 (zI b0 33 (-1)) c0)), zVi (a0 17) k1 2 f1, zVi (a0 20) k2 28 f2, zVi (a0 35) k3 14 g_29, zVi (a0 21) k4 28 f4, zVi (a0 19) k5 28 f5, zVl (a0 31) k6 14 o_20.1, zVl (a0 22) k7 28 f7, zVl (a0 23) k8 28 f8, zVl (a0 32) k9 14 o_20.2] := by rw [eg_29]; exact hD
              refine lv_iinc (v := (s_6.1 + 1)) (lv' := [(3, .int (s_6.1 + 1)), (0, .ref h0), (1, .int p1), (2, .int p2)]) hx hb dX12_range_101 hl (k := 0) rfl rfl (of_decide_eq_true rfl) rfl (fun ls hl => ?_)
              refine lv_goto (tgt := 19) hx hb dX12_range_104 (of_decide_eq_true rfl) ?_
              exact ih_6 ((s_6.1 + 1), o_20.1, o_20.2, g_29) H locs ls hfn hP hD hS (lv_sub hl [0, 1, 2, 3] rfl)
            have hfn := (if_neg c_28).symm.trans hfn
            refine lv_iconst (v := 1) hx hb dX12_range_95 zci_1 ?_
            refine lv_goto (tgt := 100) hx hb dX12_range_96 (of_decide_eq_true rfl) ?_
            refine va_zast hx hb hK hP hD hS 3 2 rfl rfl h_17 dX12_range_100 (fun H locs hP hD hS => ?_)
            obtain ⟨g_30, eg_30⟩ : ∃ g : Nat → Int32, g = (upd (upd s_6.2.2.2 s_6.1.toNatClampNeg (vp_nar .boolean s_16)) s_6.1.toNatClampNeg (vp_nar .boolean 1)) := ⟨_, rfl⟩
            have hfn := zn_s hfn eg_30
            have hP : va_P (dC, dI) vwCl [(h0, .inr (12, zO a0 (zI b0 33 (-1)) c0)), zVi (a0 17) k1 2 f1, zVi (a0 20) k2 28 f2, zVi (a0 35) k3 14 g_30, zVi (a0 21) k4 28 f4, zVi (a0 19) k5 28 f5, zVl (a0 31) k6 14 o_20.1, zVl (a0 22) k7 28 f7, zVl (a0 23) k8 28 f8, zVl (a0 32) k9 14 o_20.2] H := by rw [eg_30]; exact hP
            have hD : va_D A [(h0, .inr (12, zO a0 (zI b0 33 (-1)) c0)), zVi (a0 17) k1 2 f1, zVi (a0 20) k2 28 f2, zVi (a0 35) k3 14 g_30, zVi (a0 21) k4 28 f4, zVi (a0 19) k5 28 f5, zVl (a0 31) k6 14 o_20.1, zVl (a0 22) k7 28 f7, zVl (a0 23) k8 28 f8, zVl (a0 32) k9 14 o_20.2] := by rw [eg_30]; exact hD
            refine lv_iinc (v := (s_6.1 + 1)) (lv' := [(3, .int (s_6.1 + 1)), (0, .ref h0), (1, .int p1), (2, .int p2)]) hx hb dX12_range_101 hl (k := 0) rfl rfl (of_decide_eq_true rfl) rfl (fun ls hl => ?_)
            refine lv_goto (tgt := 19) hx hb dX12_range_104 (of_decide_eq_true rfl) ?_
            exact ih_6 ((s_6.1 + 1), o_20.1, o_20.2, g_30) H locs ls hfn hP hD hS (lv_sub hl [0, 1, 2, 3] rfl)
          have hfn := (if_neg c_19).symm.trans hfn
          refine lv_goto (tgt := 101) hx hb dX12_range_70 (of_decide_eq_true rfl) ?_
          refine lv_iinc (v := (s_6.1 + 1)) (lv' := [(3, .int (s_6.1 + 1)), (0, .ref h0), (1, .int p1), (2, .int p2)]) hx hb dX12_range_101 hl (k := 0) rfl rfl (of_decide_eq_true rfl) rfl (fun ls hl => ?_)
          refine lv_goto (tgt := 19) hx hb dX12_range_104 (of_decide_eq_true rfl) ?_
          exact ih_6 ((s_6.1 + 1), s_6.2.1, s_6.2.2.1, (upd s_6.2.2.2 s_6.1.toNatClampNeg (vp_nar .boolean s_16))) H locs ls hfn hP hD hS (lv_sub hl [0, 1, 2, 3] rfl)
        obtain ⟨j_31, ej_31, hfn⟩ := zj_g hfn
        have jp_31 : ∀ (s_31 : Unit) (H : Heap) (locs : List Loc) (ls : Array Slot), j_31 s_31 = some o → va_P (dC, dI) vwCl [(h0, .inr (12, zO a0 (zI b0 33 (-1)) c0)), zVi (a0 17) k1 2 f1, zVi (a0 20) k2 28 f2, zVi (a0 35) k3 14 s_6.2.2.2, zVi (a0 21) k4 28 f4, zVi (a0 19) k5 28 f5, zVl (a0 31) k6 14 s_6.2.1, zVl (a0 22) k7 28 f7, zVl (a0 23) k8 28 f8, zVl (a0 32) k9 14 s_6.2.2.1] H → va_D A [(h0, .inr (12, zO a0 (zI b0 33 (-1)) c0)), zVi (a0 17) k1 2 f1, zVi (a0 20) k2 28 f2, zVi (a0 35) k3 14 s_6.2.2.2, zVi (a0 21) k4 28 f4, zVi (a0 19) k5 28 f5, zVl (a0 31) k6 14 s_6.2.1, zVl (a0 22) k7 28 f7, zVl (a0 23) k8 28 f8, zVl (a0 32) k9 14 s_6.2.2.1] → va_S A s.heap H locs → lv_has ls 4 [(3, .int s_6.1), (0, .ref h0), (1, .int p1), (2, .int p2)] → W p l e (headSpec wsX12_range ({ frames := 4, cells := 0, slots := 0, locals := 113 })).room s m ([.ref h0, .int p1, .int p2] : List Value).toArray below meth c H locs 0 0 Q (F0 m 55 ls [.int s_6.1, .ref (a0 35)]) := by
          intro s_31 H locs ls hfn hP hD hS hl
          have hfn := zj_s ej_31 hfn
          refine lv_iconst (v := 1) hx hb dX12_range_55 zci_1 ?_
          refine lv_goto (tgt := 60) hx hb dX12_range_56 (of_decide_eq_true rfl) ?_
          exact jp_16 1 H locs ls hfn hP hD hS (lv_sub hl [0, 1, 2, 3] rfl)
        refine lv_if_ne (tgt := 55) hx hb dX12_range_39 (of_decide_eq_true rfl) (fun c_32 => ?_) (fun c_32 => ?_)
        · have hfn := (if_neg c_32).symm.trans hfn
          exact jp_31 () H locs ls hfn hP hD hS (lv_sub hl [0, 1, 2, 3] rfl)
        have hfn := (if_pos c_32).symm.trans hfn
        refine lv_aload_n hx hb dX12_range_42 rfl (lv_at hl 1 rfl) ?_
        refine lv_aload_n hx hb dX12_range_43 rfl (lv_at hl 1 rfl) ?_
        refine va_get (D := (dC, dI)) (ci := 12) (v := .ref (a0 21)) (C := RX12) (T := TX12) (N := 67) hx hb hts zn_X12_range_X12 hown hK hP 0 rfl rfl 21 (of_decide_eq_true rfl) (hts (.fieldLink RX12 74 "ShortEnoughModel" "second" "[I") zw_X12_range_1117) (fun _ h9 => h9) rfl dX12_range_44 ?_
        refine lv_iload_n hx hb dX12_range_47 rfl (lv_at hl 0 rfl) ?_
        refine va_iald hx hb hK hP 4 3 rfl rfl h_11 dX12_range_48 ?_
        obtain ⟨o_33, hqo_33, hfn⟩ := zb_s hfn
        refine zcVb (ci := 12) (rest := [.int s_6.1, .ref (a0 35)]) (pc' := 52) (ws' := [(h0, .inr (12, zO a0 (zI b0 33 (-1)) c0)), zVi (a0 17) k1 2 f1, zVi (a0 20) k2 28 f2, zVi (a0 35) k3 14 s_6.2.2.2, zVi (a0 21) k4 28 f4, zVi (a0 19) k5 28 f5, zVl (a0 31) k6 14 s_6.2.1, zVl (a0 22) k7 28 f7, zVl (a0 23) k8 28 f8, zVl (a0 32) k9 14 s_6.2.2.1]) hP hK hD hS hA ⟨hx, hb, hml, hown, hts⟩ (zf_X12_isGreatPart l dC dI h0 (f4 s_6.1.toNatClampNeg) a0 (zI b0 33 (-1)) c0 k3 s_6.2.2.2 o_33 hqo_33 H.size) (cwV 1 hts gX12_range_X12_isGreatPart rfl rfl rfl zhd_X12_isGreatPart ⟨Nat.le_of_ble_eq_true rfl, Nat.le_of_ble_eq_true rfl⟩) [0, 3] rfl (of_decide_eq_true rfl) [2] rfl rfl rfl rfl hl.1 rfl (Nat.le_of_ble_eq_true rfl) dX12_range_49 ⟨Nat.le_of_ble_eq_true rfl, Nat.le_of_ble_eq_true rfl⟩ [some 0, none, none, some 1] (of_decide_eq_true rfl) (of_decide_eq_true rfl) rfl rfl rfl (fun H locs hw_36n hP hD hS => ?_)
        refine lv_if_eq (tgt := 59) hx hb dX12_range_52 (of_decide_eq_true rfl) (fun c_37 => ?_) (fun c_37 => ?_)
        · have hfn := (if_pos c_37).symm.trans hfn
          refine lv_iconst (v := 0) hx hb dX12_range_59 zci_0 ?_
          exact jp_16 0 H locs ls hfn hP hD hS (lv_sub hl [0, 1, 2, 3] rfl)
        have hfn := (if_neg c_37).symm.trans hfn
        exact jp_31 () H locs ls hfn hP hD hS (lv_sub hl [0, 1, 2, 3] rfl)
    exact lp_6 _ (0, f6, f9, f3) H locs ls hfn hP hD hS (lv_sub hl [0, 1, 2, 3] rfl)
  have hfn := (if_pos c_5).symm.trans hfn
  refine lv_ldc2 (v := (-1000000000000000)) hx hb hown (hts (.constantLong RX12 381 (-1000000000000000)) zw_X12_range_1121) dX12_range_8 ?_
  have ho := Option.some.inj hfn
  subst ho
  exact zrl hx hb hr hK hP hD hS hQ rfl hlocks dX12_range_11
theorem zn_X12_uses_X12 : ∀ w ∈ wsX120, w ∈ wsX12_uses := fun _ h => List.mem_cons_of_mem _ (List.mem_append_right _ h)
theorem zw_X12_uses_1123 : Cond.fieldLink RX12 62 "ShortEnoughModel" "numbers" "[I" ∈ wsX12_uses := List.mem_of_getElem? (i := 1) (by decide +kernel)
theorem zw_X12_uses_1124 : Cond.fieldLink RX12 71 "ShortEnoughModel" "first" "[I" ∈ wsX12_uses := List.mem_of_getElem? (i := 2) (by decide +kernel)
theorem zw_X12_uses_1125 : Cond.fieldLink RX12 74 "ShortEnoughModel" "second" "[I" ∈ wsX12_uses := List.mem_of_getElem? (i := 3) (by decide +kernel)
set_option maxHeartbeats 4000000 in
set_option maxRecDepth 100000 in
theorem zf_X12_uses (l : Launch) (dC : Nat → ClassId) (dI : Nat → Nat → Nat) (h0 : Nat) (p1 : Int32) (a0 : Nat → Nat) (b0 : Nat → Int32) (c0 : Nat → Int64) (k1 : Nat) (f1 : Nat → Int32) (k2 : Nat) (f2 : Nat → Int32) (k3 : Nat) (f3 : Nat → Int32) (o : Int32) (hfn : fn_X12_uses p1 f1 f2 f3 = some o) (sz : Nat) : zMi l yX12_uses wsX12_uses ({ frames := 2, cells := 0, slots := 0, locals := 46 }) (dC, dI) vwCl [.ref h0, .int p1] [(h0, .inr (12, zO a0 b0 c0)), zVi (a0 17) k1 2 f1, zVi (a0 20) k2 28 f2, zVi (a0 21) k3 28 f3] [(k1, .int), (k2, .int), (k3, .int)] (fun r _ => r = o) [(h0, .inr (12, zO a0 b0 c0)), zVi (a0 17) k1 2 f1, zVi (a0 20) k2 28 f2, zVi (a0 21) k3 28 f3] [(k1, .int), (k2, .int), (k3, .int)] sz := by
  refine zgoi (cc := cX12_uses) (maxL := 5) (ret := (some .int)) (C0 := RX12) (lv0 := [(0, .ref h0), (1, .int p1)]) zpl_X12 rfl rfl rfl (Nat.le_of_ble_eq_true rfl) ?_
  intro p e s m below meth c A ls Q hx hb hr hts hown hlocks hml hP hK hD hA hS hl hQ
  unfold fn_X12_uses at hfn
  refine lv_aload_n hx hb dX12_uses_0 rfl (lv_at hl 0 rfl) ?_
  refine lv_iload_n hx hb dX12_uses_1 rfl (lv_at hl 1 rfl) ?_
  obtain ⟨o_1, hqo_1, hfn⟩ := zb_s hfn
  refine zcVb (ci := 12) (rest := []) (pc' := 5) (ws' := [(h0, .inr (12, zO a0 b0 c0)), zVi (a0 17) k1 2 f1, zVi (a0 20) k2 28 f2, zVi (a0 21) k3 28 f3]) hP hK hD hS hA ⟨hx, hb, hml, hown, hts⟩ (zf_X12_isNumber l dC dI h0 p1 a0 b0 c0 k1 f1 o_1 hqo_1 s.heap.size) (cwV 1 hts gX12_uses_X12_isNumber rfl rfl rfl zhd_X12_isNumber ⟨Nat.le_of_ble_eq_true rfl, Nat.le_of_ble_eq_true rfl⟩) [0, 1] rfl (of_decide_eq_true rfl) [0] rfl rfl rfl rfl hl.1 rfl (Nat.le_of_ble_eq_true rfl) dX12_uses_2 ⟨Nat.le_of_ble_eq_true rfl, Nat.le_of_ble_eq_true rfl⟩ [some 0, some 1] (of_decide_eq_true rfl) (of_decide_eq_true rfl) rfl rfl rfl (fun H locs hw_4n hP hD hS => ?_)
  refine lv_if_ne (tgt := 10) hx hb dX12_uses_5 (of_decide_eq_true rfl) (fun c_5 => ?_) (fun c_5 => ?_)
  · have hfn := (if_neg c_5).symm.trans hfn
    refine lv_iconst (v := 1) hx hb dX12_uses_10 zci_1 ?_
    refine lv_iload_n hx hb dX12_uses_11 rfl (lv_at hl 1 rfl) ?_
    refine lv_ishl hx hb dX12_uses_12 ?_
    refine lv_istore_n (lv' := [(2, .int (1 <<< (p1 &&& 31))), (0, .ref h0), (1, .int p1)]) hx hb dX12_uses_13 rfl hl (of_decide_eq_true rfl) rfl (fun ls hl => ?_)
    refine lv_iload_n hx hb dX12_uses_14 rfl (lv_at hl 2 rfl) ?_
    refine lv_iconst (v := 1) hx hb dX12_uses_15 zci_1 ?_
    refine lv_iadd hx hb dX12_uses_16 ?_
    refine lv_istore_n (lv' := [(3, .int (p1 + 1)), (2, .int (1 <<< (p1 &&& 31))), (0, .ref h0), (1, .int p1)]) hx hb dX12_uses_17 rfl hl (of_decide_eq_true rfl) rfl (fun ls hl => ?_)
    obtain ⟨bd_6, ebd_6, hfn⟩ := zl_g hfn
    have lp_6 : ∀ (n : Nat) (s_6 : Int32 × Int32) (H : Heap) (locs : List Loc) (ls : Array Slot), zl bd_6 n s_6 = some o → va_P (dC, dI) vwCl [(h0, .inr (12, zO a0 b0 c0)), zVi (a0 17) k1 2 f1, zVi (a0 20) k2 28 f2, zVi (a0 21) k3 28 f3] H → va_D A [(h0, .inr (12, zO a0 b0 c0)), zVi (a0 17) k1 2 f1, zVi (a0 20) k2 28 f2, zVi (a0 21) k3 28 f3] → va_S A s.heap H locs → lv_has ls 5 [(3, .int s_6.2), (2, .int s_6.1), (0, .ref h0), (1, .int p1)] → W p l e (headSpec wsX12_uses ({ frames := 2, cells := 0, slots := 0, locals := 46 })).room s m ([.ref h0, .int p1] : List Value).toArray below meth c H locs 0 0 Q (F0 m 18 ls []) := by
      intro n
      induction n with
      | zero => exact fun _ _ _ _ hfn => (zl_0 hfn).elim
      | succ n ih_6 =>
        intro s_6 H locs ls hfn hP hD hS hl
        have hfn := zl_s ebd_6 hfn
        refine lv_iload_n hx hb dX12_uses_18 rfl (lv_at hl 0 rfl) ?_
        refine lv_aload_n hx hb dX12_uses_19 rfl (lv_at hl 2 rfl) ?_
        refine va_get (D := (dC, dI)) (ci := 12) (v := .ref (a0 17)) (C := RX12) (T := TX12) (N := 67) hx hb hts zn_X12_uses_X12 hown hK hP 0 rfl rfl 17 (of_decide_eq_true rfl) (hts (.fieldLink RX12 62 "ShortEnoughModel" "numbers" "[I") zw_X12_uses_1123) (fun _ h9 => h9) rfl dX12_uses_20 ?_
        refine lv_iconst (v := 0) hx hb dX12_uses_23 zci_0 ?_
        refine va_iald hx hb hK hP 1 0 rfl rfl (zv_in (by decide +kernel)) dX12_uses_24 ?_
        refine lv_icmp_ge (tgt := 104) hx hb dX12_uses_25 (of_decide_eq_true rfl) (fun c_7 => ?_) (fun c_7 => ?_)
        · have hfn := (if_pos c_7).symm.trans hfn
          refine lv_iload_n hx hb dX12_uses_104 rfl (lv_at hl 1 rfl) ?_
          refine lv_iconst (v := 1) hx hb dX12_uses_105 zci_1 ?_
          refine lv_iload_n hx hb dX12_uses_106 rfl (lv_at hl 3 rfl) ?_
          refine lv_ishl hx hb dX12_uses_107 ?_
          refine lv_iconst (v := (-1)) hx hb dX12_uses_108 zci_m1 ?_
          refine lv_ixor hx hb dX12_uses_109 ?_
          refine lv_iand hx hb dX12_uses_110 ?_
          have ho := Option.some.inj hfn
          subst ho
          exact zri hx hb hr hK hP hD hS hQ rfl hlocks dX12_uses_111
        have hfn := (if_neg c_7).symm.trans hfn
        refine lv_aload_n hx hb dX12_uses_28 rfl (lv_at hl 2 rfl) ?_
        refine va_get (D := (dC, dI)) (ci := 12) (v := .ref (a0 20)) (C := RX12) (T := TX12) (N := 67) hx hb hts zn_X12_uses_X12 hown hK hP 0 rfl rfl 20 (of_decide_eq_true rfl) (hts (.fieldLink RX12 71 "ShortEnoughModel" "first" "[I") zw_X12_uses_1124) (fun _ h9 => h9) rfl dX12_uses_29 ?_
        refine lv_iload_n hx hb dX12_uses_32 rfl (lv_at hl 0 rfl) ?_
        obtain ⟨h_8, hfn⟩ := zg_s hfn
        refine va_iald hx hb hK hP 2 1 rfl rfl h_8 dX12_uses_33 ?_
        refine lv_iconst (v := (-1)) hx hb dX12_uses_34 zci_m1 ?_
        obtain ⟨j_9, ej_9, hfn⟩ := zj_g hfn
        have jp_9 : ∀ (s_9 : Int32) (H : Heap) (locs : List Loc) (ls : Array Slot), j_9 s_9 = some o → va_P (dC, dI) vwCl [(h0, .inr (12, zO a0 b0 c0)), zVi (a0 17) k1 2 f1, zVi (a0 20) k2 28 f2, zVi (a0 21) k3 28 f3] H → va_D A [(h0, .inr (12, zO a0 b0 c0)), zVi (a0 17) k1 2 f1, zVi (a0 20) k2 28 f2, zVi (a0 21) k3 28 f3] → va_S A s.heap H locs → lv_has ls 5 [(3, .int s_6.2), (2, .int s_6.1), (0, .ref h0), (1, .int p1)] → W p l e (headSpec wsX12_uses ({ frames := 2, cells := 0, slots := 0, locals := 46 })).room s m ([.ref h0, .int p1] : List Value).toArray below meth c H locs 0 0 Q (F0 m 81 ls [.int s_9]) := by
          intro s_9 H locs ls hfn hP hD hS hl
          have hfn := zj_s ej_9 hfn
          refine lv_istore (lv' := [(4, .int s_9), (3, .int s_6.2), (2, .int s_6.1), (0, .ref h0), (1, .int p1)]) hx hb dX12_uses_81 hl (of_decide_eq_true rfl) rfl (fun ls hl => ?_)
          refine lv_iload_n hx hb dX12_uses_83 rfl (lv_at hl 2 rfl) ?_
          refine lv_iload hx hb dX12_uses_84 (lv_at hl 0 rfl) ?_
          refine lv_if_eq (tgt := 95) hx hb dX12_uses_86 (of_decide_eq_true rfl) (fun c_10 => ?_) (fun c_10 => ?_)
          · have hfn := (if_pos c_10).symm.trans hfn
            refine lv_iconst (v := 0) hx hb dX12_uses_95 zci_0 ?_
            refine lv_ior hx hb dX12_uses_96 ?_
            refine lv_istore_n (lv' := [(2, .int (s_6.1 ||| 0)), (4, .int s_9), (3, .int s_6.2), (0, .ref h0), (1, .int p1)]) hx hb dX12_uses_97 rfl hl (of_decide_eq_true rfl) rfl (fun ls hl => ?_)
            refine lv_iinc (v := (s_6.2 + 1)) (lv' := [(3, .int (s_6.2 + 1)), (2, .int (s_6.1 ||| 0)), (4, .int s_9), (0, .ref h0), (1, .int p1)]) hx hb dX12_uses_98 hl (k := 2) rfl rfl (of_decide_eq_true rfl) rfl (fun ls hl => ?_)
            refine lv_goto (tgt := 18) hx hb dX12_uses_101 (of_decide_eq_true rfl) ?_
            exact ih_6 ((s_6.1 ||| 0), (s_6.2 + 1)) H locs ls hfn hP hD hS (lv_sub hl [0, 1, 3, 4] rfl)
          have hfn := (if_neg c_10).symm.trans hfn
          refine lv_iconst (v := 1) hx hb dX12_uses_89 zci_1 ?_
          refine lv_iload_n hx hb dX12_uses_90 rfl (lv_at hl 1 rfl) ?_
          refine lv_ishl hx hb dX12_uses_91 ?_
          refine lv_goto (tgt := 96) hx hb dX12_uses_92 (of_decide_eq_true rfl) ?_
          refine lv_ior hx hb dX12_uses_96 ?_
          refine lv_istore_n (lv' := [(2, .int (s_6.1 ||| (1 <<< (s_6.2 &&& 31)))), (4, .int s_9), (3, .int s_6.2), (0, .ref h0), (1, .int p1)]) hx hb dX12_uses_97 rfl hl (of_decide_eq_true rfl) rfl (fun ls hl => ?_)
          refine lv_iinc (v := (s_6.2 + 1)) (lv' := [(3, .int (s_6.2 + 1)), (2, .int (s_6.1 ||| (1 <<< (s_6.2 &&& 31)))), (4, .int s_9), (0, .ref h0), (1, .int p1)]) hx hb dX12_uses_98 hl (k := 2) rfl rfl (of_decide_eq_true rfl) rfl (fun ls hl => ?_)
          refine lv_goto (tgt := 18) hx hb dX12_uses_101 (of_decide_eq_true rfl) ?_
          exact ih_6 ((s_6.1 ||| (1 <<< (s_6.2 &&& 31))), (s_6.2 + 1)) H locs ls hfn hP hD hS (lv_sub hl [0, 1, 3, 4] rfl)
        obtain ⟨j_11, ej_11, hfn⟩ := zj_g hfn
        have jp_11 : ∀ (s_11 : Unit) (H : Heap) (locs : List Loc) (ls : Array Slot), j_11 s_11 = some o → va_P (dC, dI) vwCl [(h0, .inr (12, zO a0 b0 c0)), zVi (a0 17) k1 2 f1, zVi (a0 20) k2 28 f2, zVi (a0 21) k3 28 f3] H → va_D A [(h0, .inr (12, zO a0 b0 c0)), zVi (a0 17) k1 2 f1, zVi (a0 20) k2 28 f2, zVi (a0 21) k3 28 f3] → va_S A s.heap H locs → lv_has ls 5 [(3, .int s_6.2), (2, .int s_6.1), (0, .ref h0), (1, .int p1)] → W p l e (headSpec wsX12_uses ({ frames := 2, cells := 0, slots := 0, locals := 46 })).room s m ([.ref h0, .int p1] : List Value).toArray below meth c H locs 0 0 Q (F0 m 52 ls []) := by
          intro s_11 H locs ls hfn hP hD hS hl
          have hfn := zj_s ej_11 hfn
          refine lv_aload_n hx hb dX12_uses_52 rfl (lv_at hl 2 rfl) ?_
          refine va_get (D := (dC, dI)) (ci := 12) (v := .ref (a0 21)) (C := RX12) (T := TX12) (N := 67) hx hb hts zn_X12_uses_X12 hown hK hP 0 rfl rfl 21 (of_decide_eq_true rfl) (hts (.fieldLink RX12 74 "ShortEnoughModel" "second" "[I") zw_X12_uses_1125) (fun _ h9 => h9) rfl dX12_uses_53 ?_
          refine lv_iload_n hx hb dX12_uses_56 rfl (lv_at hl 0 rfl) ?_
          obtain ⟨h_12, hfn⟩ := zg_s hfn
          refine va_iald hx hb hK hP 3 2 rfl rfl h_12 dX12_uses_57 ?_
          refine lv_iconst (v := (-1)) hx hb dX12_uses_58 zci_m1 ?_
          obtain ⟨j_13, ej_13, hfn⟩ := zj_g hfn
          have jp_13 : ∀ (s_13 : Unit) (H : Heap) (locs : List Loc) (ls : Array Slot), j_13 s_13 = some o → va_P (dC, dI) vwCl [(h0, .inr (12, zO a0 b0 c0)), zVi (a0 17) k1 2 f1, zVi (a0 20) k2 28 f2, zVi (a0 21) k3 28 f3] H → va_D A [(h0, .inr (12, zO a0 b0 c0)), zVi (a0 17) k1 2 f1, zVi (a0 20) k2 28 f2, zVi (a0 21) k3 28 f3] → va_S A s.heap H locs → lv_has ls 5 [(3, .int s_6.2), (2, .int s_6.1), (0, .ref h0), (1, .int p1)] → W p l e (headSpec wsX12_uses ({ frames := 2, cells := 0, slots := 0, locals := 46 })).room s m ([.ref h0, .int p1] : List Value).toArray below meth c H locs 0 0 Q (F0 m 80 ls []) := by
            intro s_13 H locs ls hfn hP hD hS hl
            have hfn := zj_s ej_13 hfn
            refine lv_iconst (v := 0) hx hb dX12_uses_80 zci_0 ?_
            exact jp_9 0 H locs ls hfn hP hD hS (lv_sub hl [0, 1, 2, 3] rfl)
          refine lv_icmp_eq (tgt := 80) hx hb dX12_uses_59 (of_decide_eq_true rfl) (fun c_14 => ?_) (fun c_14 => ?_)
          · have hfn := (if_pos c_14).symm.trans hfn
            exact jp_13 () H locs ls hfn hP hD hS (lv_sub hl [0, 1, 2, 3] rfl)
          have hfn := (if_neg c_14).symm.trans hfn
          refine lv_iload_n hx hb dX12_uses_62 rfl (lv_at hl 1 rfl) ?_
          refine lv_aload_n hx hb dX12_uses_63 rfl (lv_at hl 2 rfl) ?_
          refine va_get (D := (dC, dI)) (ci := 12) (v := .ref (a0 21)) (C := RX12) (T := TX12) (N := 67) hx hb hts zn_X12_uses_X12 hown hK hP 0 rfl rfl 21 (of_decide_eq_true rfl) (hts (.fieldLink RX12 74 "ShortEnoughModel" "second" "[I") zw_X12_uses_1125) (fun _ h9 => h9) rfl dX12_uses_64 ?_
          refine lv_iload_n hx hb dX12_uses_67 rfl (lv_at hl 0 rfl) ?_
          refine va_iald hx hb hK hP 3 2 rfl rfl h_12 dX12_uses_68 ?_
          refine lv_ishr hx hb dX12_uses_69 ?_
          refine lv_iconst (v := 1) hx hb dX12_uses_70 zci_1 ?_
          refine lv_iand hx hb dX12_uses_71 ?_
          refine lv_iconst (v := 1) hx hb dX12_uses_72 zci_1 ?_
          refine lv_icmp_ne (tgt := 80) hx hb dX12_uses_73 (of_decide_eq_true rfl) (fun c_15 => ?_) (fun c_15 => ?_)
          · have hfn := (if_neg c_15).symm.trans hfn
            exact jp_13 () H locs ls hfn hP hD hS (lv_sub hl [0, 1, 2, 3] rfl)
          have hfn := (if_pos c_15).symm.trans hfn
          refine lv_iconst (v := 1) hx hb dX12_uses_76 zci_1 ?_
          refine lv_goto (tgt := 81) hx hb dX12_uses_77 (of_decide_eq_true rfl) ?_
          exact jp_9 1 H locs ls hfn hP hD hS (lv_sub hl [0, 1, 2, 3] rfl)
        refine lv_icmp_eq (tgt := 52) hx hb dX12_uses_35 (of_decide_eq_true rfl) (fun c_16 => ?_) (fun c_16 => ?_)
        · have hfn := (if_pos c_16).symm.trans hfn
          exact jp_11 () H locs ls hfn hP hD hS (lv_sub hl [0, 1, 2, 3] rfl)
        have hfn := (if_neg c_16).symm.trans hfn
        refine lv_iload_n hx hb dX12_uses_38 rfl (lv_at hl 1 rfl) ?_
        refine lv_aload_n hx hb dX12_uses_39 rfl (lv_at hl 2 rfl) ?_
        refine va_get (D := (dC, dI)) (ci := 12) (v := .ref (a0 20)) (C := RX12) (T := TX12) (N := 67) hx hb hts zn_X12_uses_X12 hown hK hP 0 rfl rfl 20 (of_decide_eq_true rfl) (hts (.fieldLink RX12 71 "ShortEnoughModel" "first" "[I") zw_X12_uses_1124) (fun _ h9 => h9) rfl dX12_uses_40 ?_
        refine lv_iload_n hx hb dX12_uses_43 rfl (lv_at hl 0 rfl) ?_
        refine va_iald hx hb hK hP 2 1 rfl rfl h_8 dX12_uses_44 ?_
        refine lv_ishr hx hb dX12_uses_45 ?_
        refine lv_iconst (v := 1) hx hb dX12_uses_46 zci_1 ?_
        refine lv_iand hx hb dX12_uses_47 ?_
        refine lv_iconst (v := 1) hx hb dX12_uses_48 zci_1 ?_
        refine lv_icmp_eq (tgt := 76) hx hb dX12_uses_49 (of_decide_eq_true rfl) (fun c_17 => ?_) (fun c_17 => ?_)
        · have hfn := (if_pos c_17).symm.trans hfn
          refine lv_iconst (v := 1) hx hb dX12_uses_76 zci_1 ?_
          refine lv_goto (tgt := 81) hx hb dX12_uses_77 (of_decide_eq_true rfl) ?_
          exact jp_9 1 H locs ls hfn hP hD hS (lv_sub hl [0, 1, 2, 3] rfl)
        have hfn := (if_neg c_17).symm.trans hfn
        exact jp_11 () H locs ls hfn hP hD hS (lv_sub hl [0, 1, 2, 3] rfl)
    exact lp_6 _ ((1 <<< (p1 &&& 31)), (p1 + 1)) H locs ls hfn hP hD hS (lv_sub hl [0, 1, 2, 3] rfl)
  have hfn := (if_pos c_5).symm.trans hfn
  refine lv_iconst (v := (-1)) hx hb dX12_uses_8 zci_m1 ?_
  have ho := Option.some.inj hfn
  subst ho
  exact zri hx hb hr hK hP hD hS hQ rfl hlocks dX12_uses_9
theorem zn_X12_deepOf_X12 : ∀ w ∈ wsX120, w ∈ wsX12_deepOf := fun _ h => List.mem_cons_of_mem _ (List.mem_append_right _ h)
theorem zw_X12_deepOf_1127 : Cond.fieldLink RX12 122 "ShortEnoughModel" "deep" "[I" ∈ wsX12_deepOf := List.mem_of_getElem? (i := 1) (by decide +kernel)
set_option maxHeartbeats 4000000 in
set_option maxRecDepth 100000 in
theorem zf_X12_deepOf (l : Launch) (dC : Nat → ClassId) (dI : Nat → Nat → Nat) (h0 : Nat) (p1 : Int32) (a0 : Nat → Nat) (b0 : Nat → Int32) (c0 : Nat → Int64) (k1 : Nat) (f1 : Nat → Int32) (o : Int32) (hfn : fn_X12_deepOf p1 f1 = some o) (sz : Nat) : zMi l yX12_deepOf wsX12_deepOf ({ frames := 0, cells := 0, slots := 0, locals := 0 }) (dC, dI) vwCl [.ref h0, .int p1] [(h0, .inr (12, zO a0 b0 c0)), zVi (a0 36) k1 14 f1] [(k1, .int)] (fun r _ => r = o) [(h0, .inr (12, zO a0 b0 c0)), zVi (a0 36) k1 14 f1] [(k1, .int)] sz := by
  refine zgoi (cc := cX12_deepOf) (maxL := 2) (ret := (some .int)) (C0 := RX12) (lv0 := [(0, .ref h0), (1, .int p1)]) zpl_X12 rfl rfl rfl (Nat.le_of_ble_eq_true rfl) ?_
  intro p e s m below meth c A ls Q hx hb hr hts hown hlocks hml hP hK hD hA hS hl hQ
  unfold fn_X12_deepOf at hfn
  refine lv_iload_n hx hb dX12_deepOf_0 rfl (lv_at hl 1 rfl) ?_
  refine lv_iconst (v := (-1)) hx hb dX12_deepOf_1 zci_m1 ?_
  refine lv_icmp_ne (tgt := 9) hx hb dX12_deepOf_2 (of_decide_eq_true rfl) (fun c_1 => ?_) (fun c_1 => ?_)
  · have hfn := (if_neg c_1).symm.trans hfn
    refine lv_aload_n hx hb dX12_deepOf_9 rfl (lv_at hl 0 rfl) ?_
    refine va_get (D := (dC, dI)) (ci := 12) (v := .ref (a0 36)) (C := RX12) (T := TX12) (N := 67) hx hb hts zn_X12_deepOf_X12 hown hK hP 0 rfl rfl 36 (of_decide_eq_true rfl) (hts (.fieldLink RX12 122 "ShortEnoughModel" "deep" "[I") zw_X12_deepOf_1127) (fun _ h9 => h9) rfl dX12_deepOf_10 ?_
    refine lv_iload_n hx hb dX12_deepOf_13 rfl (lv_at hl 1 rfl) ?_
    obtain ⟨h_2, hfn⟩ := zg_s hfn
    refine va_iald hx hb hK hP 1 0 rfl rfl h_2 dX12_deepOf_14 ?_
    have ho := Option.some.inj hfn
    subst ho
    exact zri hx hb hr hK hP hD hS hQ rfl hlocks dX12_deepOf_15
  have hfn := (if_pos c_1).symm.trans hfn
  refine lv_iconst (v := 0) hx hb dX12_deepOf_5 zci_0 ?_
  refine lv_goto (tgt := 15) hx hb dX12_deepOf_6 (of_decide_eq_true rfl) ?_
  have ho := Option.some.inj hfn
  subst ho
  exact zri hx hb hr hK hP hD hS hQ rfl hlocks dX12_deepOf_15
theorem zn_X12_depth_X12 : ∀ w ∈ wsX120, w ∈ wsX12_depth := fun _ h => List.mem_cons_of_mem _ (List.mem_append_right _ h)
theorem zw_X12_depth_1129 : Cond.fieldLink RX12 71 "ShortEnoughModel" "first" "[I" ∈ wsX12_depth := List.mem_of_getElem? (i := 1) (by decide +kernel)
theorem zw_X12_depth_1130 : Cond.fieldLink RX12 74 "ShortEnoughModel" "second" "[I" ∈ wsX12_depth := List.mem_of_getElem? (i := 2) (by decide +kernel)
theorem zw_X12_depth_1131 : Cond.fieldLink RX12 122 "ShortEnoughModel" "deep" "[I" ∈ wsX12_depth := List.mem_of_getElem? (i := 3) (by decide +kernel)
theorem zw_X12_depth_1132 : Cond.fieldLink RX12 68 "ShortEnoughModel" "op" "[I" ∈ wsX12_depth := List.mem_of_getElem? (i := 4) (by decide +kernel)
set_option maxHeartbeats 4000000 in
set_option maxRecDepth 100000 in
theorem zf_X12_depth (l : Launch) (dC : Nat → ClassId) (dI : Nat → Nat → Nat) (h0 : Nat) (p1 : Int32) (a0 : Nat → Nat) (b0 : Nat → Int32) (c0 : Nat → Int64) (k1 : Nat) (f1 : Nat → Int32) (k2 : Nat) (f2 : Nat → Int32) (k3 : Nat) (f3 : Nat → Int32) (k4 : Nat) (f4 : Nat → Int32) (k5 : Nat) (f5 : Nat → Int32) (o : Int32 × (Nat → Int32)) (hfn : fn_X12_depth p1 f1 f2 f3 f4 f5 = some o) (sz : Nat) : zMi l yX12_depth wsX12_depth ({ frames := 2, cells := 0, slots := 0, locals := 46 }) (dC, dI) vwCl [.ref h0, .int p1] [(h0, .inr (12, zO a0 b0 c0)), zVi (a0 17) k1 2 f1, zVi (a0 20) k2 28 f2, zVi (a0 36) k3 14 f3, zVi (a0 21) k4 28 f4, zVi (a0 19) k5 28 f5] [(k1, .int), (k2, .int), (k3, .int), (k4, .int), (k5, .int)] (fun r _ => r = o.1) [(h0, .inr (12, zO a0 b0 c0)), zVi (a0 17) k1 2 f1, zVi (a0 20) k2 28 f2, zVi (a0 36) k3 14 o.2, zVi (a0 21) k4 28 f4, zVi (a0 19) k5 28 f5] [(k1, .int), (k2, .int), (k3, .int), (k4, .int), (k5, .int)] sz := by
  refine zgoi (cc := cX12_depth) (maxL := 5) (ret := (some .int)) (C0 := RX12) (lv0 := [(0, .ref h0), (1, .int p1)]) zpl_X12 rfl rfl rfl (Nat.le_of_ble_eq_true rfl) ?_
  intro p e s m below meth c A ls Q hx hb hr hts hown hlocks hml hP hK hD hA hS hl hQ
  unfold fn_X12_depth at hfn
  refine lv_aload_n hx hb dX12_depth_0 rfl (lv_at hl 0 rfl) ?_
  refine lv_iload_n hx hb dX12_depth_1 rfl (lv_at hl 1 rfl) ?_
  obtain ⟨o_1, hqo_1, hfn⟩ := zb_s hfn
  refine zcVb (ci := 12) (rest := []) (pc' := 5) (ws' := [(h0, .inr (12, zO a0 b0 c0)), zVi (a0 17) k1 2 f1, zVi (a0 20) k2 28 f2, zVi (a0 36) k3 14 f3, zVi (a0 21) k4 28 f4, zVi (a0 19) k5 28 f5]) hP hK hD hS hA ⟨hx, hb, hml, hown, hts⟩ (zf_X12_isNumber l dC dI h0 p1 a0 b0 c0 k1 f1 o_1 hqo_1 s.heap.size) (cwV 1 hts gX12_depth_X12_isNumber rfl rfl rfl zhd_X12_isNumber ⟨Nat.le_of_ble_eq_true rfl, Nat.le_of_ble_eq_true rfl⟩) [0, 1] rfl (of_decide_eq_true rfl) [0] rfl rfl rfl rfl hl.1 rfl (Nat.le_of_ble_eq_true rfl) dX12_depth_2 ⟨Nat.le_of_ble_eq_true rfl, Nat.le_of_ble_eq_true rfl⟩ [some 0, some 1] (of_decide_eq_true rfl) (of_decide_eq_true rfl) rfl rfl rfl (fun H locs hw_4n hP hD hS => ?_)
  refine lv_if_ne (tgt := 10) hx hb dX12_depth_5 (of_decide_eq_true rfl) (fun c_5 => ?_) (fun c_5 => ?_)
  · have hfn := (if_neg c_5).symm.trans hfn
    refine lv_iconst (v := 0) hx hb dX12_depth_10 zci_0 ?_
    refine lv_istore_n (lv' := [(2, .int 0), (0, .ref h0), (1, .int p1)]) hx hb dX12_depth_11 rfl hl (of_decide_eq_true rfl) rfl (fun ls hl => ?_)
    obtain ⟨bd_6, ebd_6, hfn⟩ := zl_g hfn
    have lp_6 : ∀ (n : Nat) (s_6 : Int32 × (Nat → Int32)) (H : Heap) (locs : List Loc) (ls : Array Slot), zl bd_6 n s_6 = some o → va_P (dC, dI) vwCl [(h0, .inr (12, zO a0 b0 c0)), zVi (a0 17) k1 2 f1, zVi (a0 20) k2 28 f2, zVi (a0 36) k3 14 s_6.2, zVi (a0 21) k4 28 f4, zVi (a0 19) k5 28 f5] H → va_D A [(h0, .inr (12, zO a0 b0 c0)), zVi (a0 17) k1 2 f1, zVi (a0 20) k2 28 f2, zVi (a0 36) k3 14 s_6.2, zVi (a0 21) k4 28 f4, zVi (a0 19) k5 28 f5] → va_S A s.heap H locs → lv_has ls 5 [(2, .int s_6.1), (0, .ref h0), (1, .int p1)] → W p l e (headSpec wsX12_depth ({ frames := 2, cells := 0, slots := 0, locals := 46 })).room s m ([.ref h0, .int p1] : List Value).toArray below meth c H locs 0 0 Q (F0 m 12 ls []) := by
      intro n
      induction n with
      | zero => exact fun _ _ _ _ hfn => (zl_0 hfn).elim
      | succ n ih_6 =>
        intro s_6 H locs ls hfn hP hD hS hl
        have hfn := zl_s ebd_6 hfn
        refine lv_iload_n hx hb dX12_depth_12 rfl (lv_at hl 0 rfl) ?_
        refine lv_iload_n hx hb dX12_depth_13 rfl (lv_at hl 2 rfl) ?_
        refine lv_icmp_gt (tgt := 79) hx hb dX12_depth_14 (of_decide_eq_true rfl) (fun c_7 => ?_) (fun c_7 => ?_)
        · have hfn := (if_pos c_7).symm.trans hfn
          refine lv_aload_n hx hb dX12_depth_79 rfl (lv_at hl 1 rfl) ?_
          refine va_get (D := (dC, dI)) (ci := 12) (v := .ref (a0 36)) (C := RX12) (T := TX12) (N := 67) hx hb hts zn_X12_depth_X12 hown hK hP 0 rfl rfl 36 (of_decide_eq_true rfl) (hts (.fieldLink RX12 122 "ShortEnoughModel" "deep" "[I") zw_X12_depth_1131) (fun _ h9 => h9) rfl dX12_depth_80 ?_
          refine lv_iload_n hx hb dX12_depth_83 rfl (lv_at hl 2 rfl) ?_
          obtain ⟨h_8, hfn⟩ := zg_s hfn
          refine va_iald hx hb hK hP 3 2 rfl rfl h_8 dX12_depth_84 ?_
          have ho := Option.some.inj hfn
          subst ho
          exact zri hx hb hr hK hP hD hS hQ rfl hlocks dX12_depth_85
        have hfn := (if_neg c_7).symm.trans hfn
        refine lv_aload_n hx hb dX12_depth_17 rfl (lv_at hl 1 rfl) ?_
        refine lv_aload_n hx hb dX12_depth_18 rfl (lv_at hl 1 rfl) ?_
        refine va_get (D := (dC, dI)) (ci := 12) (v := .ref (a0 20)) (C := RX12) (T := TX12) (N := 67) hx hb hts zn_X12_depth_X12 hown hK hP 0 rfl rfl 20 (of_decide_eq_true rfl) (hts (.fieldLink RX12 71 "ShortEnoughModel" "first" "[I") zw_X12_depth_1129) (fun _ h9 => h9) rfl dX12_depth_19 ?_
        refine lv_iload_n hx hb dX12_depth_22 rfl (lv_at hl 0 rfl) ?_
        obtain ⟨h_9, hfn⟩ := zg_s hfn
        refine va_iald hx hb hK hP 2 1 rfl rfl h_9 dX12_depth_23 ?_
        obtain ⟨o_10, hqo_10, hfn⟩ := zb_s hfn
        refine zcVi (ci := 12) (rest := []) (pc' := 27) (ws' := [(h0, .inr (12, zO a0 b0 c0)), zVi (a0 17) k1 2 f1, zVi (a0 20) k2 28 f2, zVi (a0 36) k3 14 s_6.2, zVi (a0 21) k4 28 f4, zVi (a0 19) k5 28 f5]) hP hK hD hS hA ⟨hx, hb, hml, hown, hts⟩ (zf_X12_deepOf l dC dI h0 (f2 s_6.1.toNatClampNeg) a0 b0 c0 k3 s_6.2 o_10 hqo_10 H.size) (cwV 1 hts gX12_depth_X12_deepOf rfl rfl rfl zhd_X12_deepOf ⟨Nat.le_of_ble_eq_true rfl, Nat.le_of_ble_eq_true rfl⟩) [0, 3] rfl (of_decide_eq_true rfl) [2] rfl rfl rfl rfl hl.1 rfl (Nat.le_of_ble_eq_true rfl) dX12_depth_24 ⟨Nat.le_of_ble_eq_true rfl, Nat.le_of_ble_eq_true rfl⟩ [some 0, none, none, some 1] (of_decide_eq_true rfl) (of_decide_eq_true rfl) rfl rfl rfl (fun H locs hP hD hS => ?_)
        refine lv_istore_n (lv' := [(3, .int o_10), (2, .int s_6.1), (0, .ref h0), (1, .int p1)]) hx hb dX12_depth_27 rfl hl (of_decide_eq_true rfl) rfl (fun ls hl => ?_)
        refine lv_aload_n hx hb dX12_depth_28 rfl (lv_at hl 2 rfl) ?_
        refine lv_aload_n hx hb dX12_depth_29 rfl (lv_at hl 2 rfl) ?_
        refine va_get (D := (dC, dI)) (ci := 12) (v := .ref (a0 21)) (C := RX12) (T := TX12) (N := 67) hx hb hts zn_X12_depth_X12 hown hK hP 0 rfl rfl 21 (of_decide_eq_true rfl) (hts (.fieldLink RX12 74 "ShortEnoughModel" "second" "[I") zw_X12_depth_1130) (fun _ h9 => h9) rfl dX12_depth_30 ?_
        refine lv_iload_n hx hb dX12_depth_33 rfl (lv_at hl 1 rfl) ?_
        refine va_iald hx hb hK hP 4 3 rfl rfl h_9 dX12_depth_34 ?_
        obtain ⟨o_14, hqo_14, hfn⟩ := zb_s hfn
        refine zcVi (ci := 12) (rest := []) (pc' := 38) (ws' := [(h0, .inr (12, zO a0 b0 c0)), zVi (a0 17) k1 2 f1, zVi (a0 20) k2 28 f2, zVi (a0 36) k3 14 s_6.2, zVi (a0 21) k4 28 f4, zVi (a0 19) k5 28 f5]) hP hK hD hS hA ⟨hx, hb, hml, hown, hts⟩ (zf_X12_deepOf l dC dI h0 (f4 s_6.1.toNatClampNeg) a0 b0 c0 k3 s_6.2 o_14 hqo_14 H.size) (cwV 1 hts gX12_depth_X12_deepOf rfl rfl rfl zhd_X12_deepOf ⟨Nat.le_of_ble_eq_true rfl, Nat.le_of_ble_eq_true rfl⟩) [0, 3] rfl (of_decide_eq_true rfl) [2] rfl rfl rfl rfl hl.1 rfl (Nat.le_of_ble_eq_true rfl) dX12_depth_35 ⟨Nat.le_of_ble_eq_true rfl, Nat.le_of_ble_eq_true rfl⟩ [some 0, none, none, some 1] (of_decide_eq_true rfl) (of_decide_eq_true rfl) rfl rfl rfl (fun H locs hP hD hS => ?_)
        refine lv_istore (lv' := [(4, .int o_14), (3, .int o_10), (2, .int s_6.1), (0, .ref h0), (1, .int p1)]) hx hb dX12_depth_38 hl (of_decide_eq_true rfl) rfl (fun ls hl => ?_)
        refine lv_aload_n hx hb dX12_depth_40 rfl (lv_at hl 3 rfl) ?_
        refine va_get (D := (dC, dI)) (ci := 12) (v := .ref (a0 36)) (C := RX12) (T := TX12) (N := 67) hx hb hts zn_X12_depth_X12 hown hK hP 0 rfl rfl 36 (of_decide_eq_true rfl) (hts (.fieldLink RX12 122 "ShortEnoughModel" "deep" "[I") zw_X12_depth_1131) (fun _ h9 => h9) rfl dX12_depth_41 ?_
        refine lv_iload_n hx hb dX12_depth_44 rfl (lv_at hl 2 rfl) ?_
        refine lv_aload_n hx hb dX12_depth_45 rfl (lv_at hl 3 rfl) ?_
        refine va_get (D := (dC, dI)) (ci := 12) (v := .ref (a0 19)) (C := RX12) (T := TX12) (N := 67) hx hb hts zn_X12_depth_X12 hown hK hP 0 rfl rfl 19 (of_decide_eq_true rfl) (hts (.fieldLink RX12 68 "ShortEnoughModel" "op" "[I") zw_X12_depth_1132) (fun _ h9 => h9) rfl dX12_depth_46 ?_
        refine lv_iload_n hx hb dX12_depth_49 rfl (lv_at hl 2 rfl) ?_
        refine va_iald hx hb hK hP 5 4 rfl rfl h_9 dX12_depth_50 ?_
        refine lv_if_ne (tgt := 58) hx hb dX12_depth_51 (of_decide_eq_true rfl) (fun c_18 => ?_) (fun c_18 => ?_)
        · have hfn := (if_neg c_18).symm.trans hfn
          refine lv_iload_n hx hb dX12_depth_58 rfl (lv_at hl 1 rfl) ?_
          refine lv_iload hx hb dX12_depth_59 (lv_at hl 0 rfl) ?_
          refine lv_icmp_le (tgt := 68) hx hb dX12_depth_61 (of_decide_eq_true rfl) (fun c_19 => ?_) (fun c_19 => ?_)
          · have hfn := (if_pos c_19).symm.trans hfn
            refine lv_iload hx hb dX12_depth_68 (lv_at hl 0 rfl) ?_
            refine lv_iconst (v := 1) hx hb dX12_depth_70 zci_1 ?_
            refine lv_iadd hx hb dX12_depth_71 ?_
            obtain ⟨h_20, hfn⟩ := zg_s hfn
            refine va_iast hx hb hK hP hD hS 3 2 rfl rfl h_20 dX12_depth_72 (fun H locs hP hD hS => ?_)
            have hP : va_P (dC, dI) vwCl [(h0, .inr (12, zO a0 b0 c0)), zVi (a0 17) k1 2 f1, zVi (a0 20) k2 28 f2, zVi (a0 36) k3 14 (upd s_6.2 s_6.1.toNatClampNeg (o_14 + 1)), zVi (a0 21) k4 28 f4, zVi (a0 19) k5 28 f5] H := hP
            have hD := zDW hD hP rfl
            refine lv_iinc (v := (s_6.1 + 1)) (lv' := [(2, .int (s_6.1 + 1)), (4, .int o_14), (3, .int o_10), (0, .ref h0), (1, .int p1)]) hx hb dX12_depth_73 hl (k := 2) rfl rfl (of_decide_eq_true rfl) rfl (fun ls hl => ?_)
            refine lv_goto (tgt := 12) hx hb dX12_depth_76 (of_decide_eq_true rfl) ?_
            exact ih_6 ((s_6.1 + 1), (upd s_6.2 s_6.1.toNatClampNeg (o_14 + 1))) H locs ls hfn hP hD hS (lv_sub hl [0, 3, 4] rfl)
          have hfn := (if_neg c_19).symm.trans hfn
          refine lv_iload_n hx hb dX12_depth_64 rfl (lv_at hl 1 rfl) ?_
          refine lv_goto (tgt := 70) hx hb dX12_depth_65 (of_decide_eq_true rfl) ?_
          refine lv_iconst (v := 1) hx hb dX12_depth_70 zci_1 ?_
          refine lv_iadd hx hb dX12_depth_71 ?_
          obtain ⟨h_21, hfn⟩ := zg_s hfn
          refine va_iast hx hb hK hP hD hS 3 2 rfl rfl h_21 dX12_depth_72 (fun H locs hP hD hS => ?_)
          have hP : va_P (dC, dI) vwCl [(h0, .inr (12, zO a0 b0 c0)), zVi (a0 17) k1 2 f1, zVi (a0 20) k2 28 f2, zVi (a0 36) k3 14 (upd s_6.2 s_6.1.toNatClampNeg (o_10 + 1)), zVi (a0 21) k4 28 f4, zVi (a0 19) k5 28 f5] H := hP
          have hD := zDW hD hP rfl
          refine lv_iinc (v := (s_6.1 + 1)) (lv' := [(2, .int (s_6.1 + 1)), (4, .int o_14), (3, .int o_10), (0, .ref h0), (1, .int p1)]) hx hb dX12_depth_73 hl (k := 2) rfl rfl (of_decide_eq_true rfl) rfl (fun ls hl => ?_)
          refine lv_goto (tgt := 12) hx hb dX12_depth_76 (of_decide_eq_true rfl) ?_
          exact ih_6 ((s_6.1 + 1), (upd s_6.2 s_6.1.toNatClampNeg (o_10 + 1))) H locs ls hfn hP hD hS (lv_sub hl [0, 3, 4] rfl)
        have hfn := (if_pos c_18).symm.trans hfn
        refine lv_iconst (v := 0) hx hb dX12_depth_54 zci_0 ?_
        refine lv_goto (tgt := 72) hx hb dX12_depth_55 (of_decide_eq_true rfl) ?_
        obtain ⟨h_22, hfn⟩ := zg_s hfn
        refine va_iast hx hb hK hP hD hS 3 2 rfl rfl h_22 dX12_depth_72 (fun H locs hP hD hS => ?_)
        have hP : va_P (dC, dI) vwCl [(h0, .inr (12, zO a0 b0 c0)), zVi (a0 17) k1 2 f1, zVi (a0 20) k2 28 f2, zVi (a0 36) k3 14 (upd s_6.2 s_6.1.toNatClampNeg 0), zVi (a0 21) k4 28 f4, zVi (a0 19) k5 28 f5] H := hP
        have hD := zDW hD hP rfl
        refine lv_iinc (v := (s_6.1 + 1)) (lv' := [(2, .int (s_6.1 + 1)), (4, .int o_14), (3, .int o_10), (0, .ref h0), (1, .int p1)]) hx hb dX12_depth_73 hl (k := 2) rfl rfl (of_decide_eq_true rfl) rfl (fun ls hl => ?_)
        refine lv_goto (tgt := 12) hx hb dX12_depth_76 (of_decide_eq_true rfl) ?_
        exact ih_6 ((s_6.1 + 1), (upd s_6.2 s_6.1.toNatClampNeg 0)) H locs ls hfn hP hD hS (lv_sub hl [0, 3, 4] rfl)
    exact lp_6 _ (0, f3) H locs ls hfn hP hD hS (lv_sub hl [0, 1, 2] rfl)
  have hfn := (if_pos c_5).symm.trans hfn
  refine lv_iconst (v := (-1)) hx hb dX12_depth_8 zci_m1 ?_
  have ho := Option.some.inj hfn
  subst ho
  exact zri hx hb hr hK hP hD hS hQ rfl hlocks dX12_depth_9
theorem zn_X12_triesHand_X12 : ∀ w ∈ wsX120, w ∈ wsX12_triesHand := fun _ h => List.mem_cons_of_mem _ (List.mem_append_right _ h)
theorem zw_X12_triesHand_1134 : Cond.fieldLink RX12 62 "ShortEnoughModel" "numbers" "[I" ∈ wsX12_triesHand := List.mem_of_getElem? (i := 1) (by decide +kernel)
theorem zw_X12_triesHand_1135 : Cond.fieldLink RX12 132 "ShortEnoughModel" "tried" "[I" ∈ wsX12_triesHand := List.mem_of_getElem? (i := 2) (by decide +kernel)
theorem zw_X12_triesHand_1136 : Cond.fieldLink RX12 125 "ShortEnoughModel" "hand" "[I" ∈ wsX12_triesHand := List.mem_of_getElem? (i := 3) (by decide +kernel)
set_option maxHeartbeats 4000000 in
set_option maxRecDepth 100000 in
theorem zf_X12_triesHand (l : Launch) (dC : Nat → ClassId) (dI : Nat → Nat → Nat) (h0 : Nat) (a0 : Nat → Nat) (b0 : Nat → Int32) (c0 : Nat → Int64) (k1 : Nat) (f1 : Nat → Int32) (k2 : Nat) (f2 : Nat → Int32) (k3 : Nat) (f3 : Nat → Int32) (o : (Nat → Int32)) (hfn : fn_X12_triesHand f1 f2 f3 = some o) (sz : Nat) : zMv l yX12_triesHand wsX12_triesHand ({ frames := 0, cells := 0, slots := 0, locals := 0 }) (dC, dI) vwCl [.ref h0] [(h0, .inr (12, zO a0 b0 c0)), zVi (a0 17) k1 2 f1, zVi (a0 37) k2 14 f2, zVi (a0 39) k3 14 f3] [(k1, .int), (k2, .int), (k3, .int)] (fun _ => True) [(h0, .inr (12, zO a0 b0 c0)), zVi (a0 17) k1 2 f1, zVi (a0 37) k2 14 f2, zVi (a0 39) k3 14 o] [(k1, .int), (k2, .int), (k3, .int)] sz := by
  refine zgov (cc := cX12_triesHand) (maxL := 2) (ret := none) (C0 := RX12) (lv0 := [(0, .ref h0)]) zpl_X12 rfl rfl rfl (Nat.le_of_ble_eq_true rfl) ?_
  intro p e s m below meth c A ls Q hx hb hr hts hown hlocks hml hP hK hD hA hS hl hQ
  unfold fn_X12_triesHand at hfn
  refine lv_iconst (v := 0) hx hb dX12_triesHand_0 zci_0 ?_
  refine lv_istore_n (lv' := [(1, .int 0), (0, .ref h0)]) hx hb dX12_triesHand_1 rfl hl (of_decide_eq_true rfl) rfl (fun ls hl => ?_)
  obtain ⟨bd_1, ebd_1, hfn⟩ := zl_g hfn
  have lp_1 : ∀ (n : Nat) (s_1 : Int32 × (Nat → Int32)) (H : Heap) (locs : List Loc) (ls : Array Slot), zl bd_1 n s_1 = some o → va_P (dC, dI) vwCl [(h0, .inr (12, zO a0 b0 c0)), zVi (a0 17) k1 2 f1, zVi (a0 37) k2 14 f2, zVi (a0 39) k3 14 s_1.2] H → va_D A [(h0, .inr (12, zO a0 b0 c0)), zVi (a0 17) k1 2 f1, zVi (a0 37) k2 14 f2, zVi (a0 39) k3 14 s_1.2] → va_S A s.heap H locs → lv_has ls 2 [(1, .int s_1.1), (0, .ref h0)] → W p l e (headSpec wsX12_triesHand ({ frames := 0, cells := 0, slots := 0, locals := 0 })).room s m ([.ref h0] : List Value).toArray below meth c H locs 0 0 Q (F0 m 2 ls []) := by
    intro n
    induction n with
    | zero => exact fun _ _ _ _ hfn => (zl_0 hfn).elim
    | succ n ih_1 =>
      intro s_1 H locs ls hfn hP hD hS hl
      have hfn := zl_s ebd_1 hfn
      refine lv_iload_n hx hb dX12_triesHand_2 rfl (lv_at hl 0 rfl) ?_
      refine lv_aload_n hx hb dX12_triesHand_3 rfl (lv_at hl 1 rfl) ?_
      refine va_get (D := (dC, dI)) (ci := 12) (v := .ref (a0 17)) (C := RX12) (T := TX12) (N := 67) hx hb hts zn_X12_triesHand_X12 hown hK hP 0 rfl rfl 17 (of_decide_eq_true rfl) (hts (.fieldLink RX12 62 "ShortEnoughModel" "numbers" "[I") zw_X12_triesHand_1134) (fun _ h9 => h9) rfl dX12_triesHand_4 ?_
      refine lv_iconst (v := 0) hx hb dX12_triesHand_7 zci_0 ?_
      refine va_iald hx hb hK hP 1 0 rfl rfl (zv_in (by decide +kernel)) dX12_triesHand_8 ?_
      refine lv_icmp_ge (tgt := 30) hx hb dX12_triesHand_9 (of_decide_eq_true rfl) (fun c_2 => ?_) (fun c_2 => ?_)
      · have hfn := (if_pos c_2).symm.trans hfn
        have ho := Option.some.inj hfn
        subst ho
        exact zrv hx hb hr hK hP hD hS hQ trivial hlocks dX12_triesHand_30
      have hfn := (if_neg c_2).symm.trans hfn
      refine lv_aload_n hx hb dX12_triesHand_12 rfl (lv_at hl 1 rfl) ?_
      refine va_get (D := (dC, dI)) (ci := 12) (v := .ref (a0 39)) (C := RX12) (T := TX12) (N := 67) hx hb hts zn_X12_triesHand_X12 hown hK hP 0 rfl rfl 39 (of_decide_eq_true rfl) (hts (.fieldLink RX12 132 "ShortEnoughModel" "tried" "[I") zw_X12_triesHand_1135) (fun _ h9 => h9) rfl dX12_triesHand_13 ?_
      refine lv_iload_n hx hb dX12_triesHand_16 rfl (lv_at hl 0 rfl) ?_
      refine lv_aload_n hx hb dX12_triesHand_17 rfl (lv_at hl 1 rfl) ?_
      refine va_get (D := (dC, dI)) (ci := 12) (v := .ref (a0 37)) (C := RX12) (T := TX12) (N := 67) hx hb hts zn_X12_triesHand_X12 hown hK hP 0 rfl rfl 37 (of_decide_eq_true rfl) (hts (.fieldLink RX12 125 "ShortEnoughModel" "hand" "[I") zw_X12_triesHand_1136) (fun _ h9 => h9) rfl dX12_triesHand_18 ?_
      refine lv_iload_n hx hb dX12_triesHand_21 rfl (lv_at hl 0 rfl) ?_
      obtain ⟨h_3, hfn⟩ := zg_s hfn
      refine va_iald hx hb hK hP 2 1 rfl rfl h_3 dX12_triesHand_22 ?_
      refine va_iast hx hb hK hP hD hS 3 2 rfl rfl h_3 dX12_triesHand_23 (fun H locs hP hD hS => ?_)
      have hP : va_P (dC, dI) vwCl [(h0, .inr (12, zO a0 b0 c0)), zVi (a0 17) k1 2 f1, zVi (a0 37) k2 14 f2, zVi (a0 39) k3 14 (upd s_1.2 s_1.1.toNatClampNeg (f2 s_1.1.toNatClampNeg))] H := hP
      have hD := zDW hD hP rfl
      refine lv_iinc (v := (s_1.1 + 1)) (lv' := [(1, .int (s_1.1 + 1)), (0, .ref h0)]) hx hb dX12_triesHand_24 hl (k := 0) rfl rfl (of_decide_eq_true rfl) rfl (fun ls hl => ?_)
      refine lv_goto (tgt := 2) hx hb dX12_triesHand_27 (of_decide_eq_true rfl) ?_
      exact ih_1 ((s_1.1 + 1), (upd s_1.2 s_1.1.toNatClampNeg (f2 s_1.1.toNatClampNeg))) H locs ls hfn hP hD hS (lv_sub hl [0, 1] rfl)
  exact lp_1 _ (0, f3) s.heap [] ls hfn hP hD hS (lv_sub hl [0, 1] rfl)
theorem zn_X12_triesGroup_X12 : ∀ w ∈ wsX120, w ∈ wsX12_triesGroup := fun _ h => List.mem_cons_of_mem _ (List.mem_append_right _ h)
theorem zw_X12_triesGroup_1138 : Cond.fieldLink RX12 62 "ShortEnoughModel" "numbers" "[I" ∈ wsX12_triesGroup := List.mem_of_getElem? (i := 1) (by decide +kernel)
theorem zw_X12_triesGroup_1139 : Cond.fieldLink RX12 132 "ShortEnoughModel" "tried" "[I" ∈ wsX12_triesGroup := List.mem_of_getElem? (i := 2) (by decide +kernel)
theorem zw_X12_triesGroup_1140 : Cond.fieldLink RX12 93 "ShortEnoughModel" "groupOf" "[I" ∈ wsX12_triesGroup := List.mem_of_getElem? (i := 3) (by decide +kernel)
set_option maxHeartbeats 4000000 in
set_option maxRecDepth 100000 in
theorem zf_X12_triesGroup (l : Launch) (dC : Nat → ClassId) (dI : Nat → Nat → Nat) (h0 : Nat) (p1 : Int32) (p2 : Int32) (a0 : Nat → Nat) (b0 : Nat → Int32) (c0 : Nat → Int64) (k1 : Nat) (f1 : Nat → Int32) (k2 : Nat) (f2 : Nat → Int32) (k3 : Nat) (f3 : Nat → Int32) (o : (Nat → Int32)) (hfn : fn_X12_triesGroup p1 p2 f1 f2 f3 = some o) (sz : Nat) : zMv l yX12_triesGroup wsX12_triesGroup ({ frames := 0, cells := 0, slots := 0, locals := 0 }) (dC, dI) vwCl [.ref h0, .int p1, .int p2] [(h0, .inr (12, zO a0 b0 c0)), zVi (a0 17) k1 2 f1, zVi (a0 27) k2 28 f2, zVi (a0 39) k3 14 f3] [(k1, .int), (k2, .int), (k3, .int)] (fun _ => True) [(h0, .inr (12, zO a0 b0 c0)), zVi (a0 17) k1 2 f1, zVi (a0 27) k2 28 f2, zVi (a0 39) k3 14 o] [(k1, .int), (k2, .int), (k3, .int)] sz := by
  refine zgov (cc := cX12_triesGroup) (maxL := 4) (ret := none) (C0 := RX12) (lv0 := [(0, .ref h0), (1, .int p1), (2, .int p2)]) zpl_X12 rfl rfl rfl (Nat.le_of_ble_eq_true rfl) ?_
  intro p e s m below meth c A ls Q hx hb hr hts hown hlocks hml hP hK hD hA hS hl hQ
  unfold fn_X12_triesGroup at hfn
  refine lv_iconst (v := 0) hx hb dX12_triesGroup_0 zci_0 ?_
  refine lv_istore_n (lv' := [(3, .int 0), (0, .ref h0), (1, .int p1), (2, .int p2)]) hx hb dX12_triesGroup_1 rfl hl (of_decide_eq_true rfl) rfl (fun ls hl => ?_)
  obtain ⟨bd_1, ebd_1, hfn⟩ := zl_g hfn
  have lp_1 : ∀ (n : Nat) (s_1 : Int32 × (Nat → Int32)) (H : Heap) (locs : List Loc) (ls : Array Slot), zl bd_1 n s_1 = some o → va_P (dC, dI) vwCl [(h0, .inr (12, zO a0 b0 c0)), zVi (a0 17) k1 2 f1, zVi (a0 27) k2 28 f2, zVi (a0 39) k3 14 s_1.2] H → va_D A [(h0, .inr (12, zO a0 b0 c0)), zVi (a0 17) k1 2 f1, zVi (a0 27) k2 28 f2, zVi (a0 39) k3 14 s_1.2] → va_S A s.heap H locs → lv_has ls 4 [(3, .int s_1.1), (0, .ref h0), (1, .int p1), (2, .int p2)] → W p l e (headSpec wsX12_triesGroup ({ frames := 0, cells := 0, slots := 0, locals := 0 })).room s m ([.ref h0, .int p1, .int p2] : List Value).toArray below meth c H locs 0 0 Q (F0 m 2 ls []) := by
    intro n
    induction n with
    | zero => exact fun _ _ _ _ hfn => (zl_0 hfn).elim
    | succ n ih_1 =>
      intro s_1 H locs ls hfn hP hD hS hl
      have hfn := zl_s ebd_1 hfn
      refine lv_iload_n hx hb dX12_triesGroup_2 rfl (lv_at hl 0 rfl) ?_
      refine lv_aload_n hx hb dX12_triesGroup_3 rfl (lv_at hl 1 rfl) ?_
      refine va_get (D := (dC, dI)) (ci := 12) (v := .ref (a0 17)) (C := RX12) (T := TX12) (N := 67) hx hb hts zn_X12_triesGroup_X12 hown hK hP 0 rfl rfl 17 (of_decide_eq_true rfl) (hts (.fieldLink RX12 62 "ShortEnoughModel" "numbers" "[I") zw_X12_triesGroup_1138) (fun _ h9 => h9) rfl dX12_triesGroup_4 ?_
      refine lv_iconst (v := 0) hx hb dX12_triesGroup_7 zci_0 ?_
      refine va_iald hx hb hK hP 1 0 rfl rfl (zv_in (by decide +kernel)) dX12_triesGroup_8 ?_
      refine lv_icmp_ge (tgt := 44) hx hb dX12_triesGroup_9 (of_decide_eq_true rfl) (fun c_2 => ?_) (fun c_2 => ?_)
      · have hfn := (if_pos c_2).symm.trans hfn
        have ho := Option.some.inj hfn
        subst ho
        exact zrv hx hb hr hK hP hD hS hQ trivial hlocks dX12_triesGroup_44
      have hfn := (if_neg c_2).symm.trans hfn
      refine lv_aload_n hx hb dX12_triesGroup_12 rfl (lv_at hl 1 rfl) ?_
      refine va_get (D := (dC, dI)) (ci := 12) (v := .ref (a0 39)) (C := RX12) (T := TX12) (N := 67) hx hb hts zn_X12_triesGroup_X12 hown hK hP 0 rfl rfl 39 (of_decide_eq_true rfl) (hts (.fieldLink RX12 132 "ShortEnoughModel" "tried" "[I") zw_X12_triesGroup_1139) (fun _ h9 => h9) rfl dX12_triesGroup_13 ?_
      refine lv_iload_n hx hb dX12_triesGroup_16 rfl (lv_at hl 0 rfl) ?_
      refine lv_aload_n hx hb dX12_triesGroup_17 rfl (lv_at hl 1 rfl) ?_
      refine va_get (D := (dC, dI)) (ci := 12) (v := .ref (a0 27)) (C := RX12) (T := TX12) (N := 67) hx hb hts zn_X12_triesGroup_X12 hown hK hP 0 rfl rfl 27 (of_decide_eq_true rfl) (hts (.fieldLink RX12 93 "ShortEnoughModel" "groupOf" "[I") zw_X12_triesGroup_1140) (fun _ h9 => h9) rfl dX12_triesGroup_18 ?_
      refine lv_iload_n hx hb dX12_triesGroup_21 rfl (lv_at hl 0 rfl) ?_
      obtain ⟨h_3, hfn⟩ := zg_s hfn
      refine va_iald hx hb hK hP 2 1 rfl rfl h_3 dX12_triesGroup_22 ?_
      refine lv_iload_n hx hb dX12_triesGroup_23 rfl (lv_at hl 2 rfl) ?_
      refine lv_icmp_ne (tgt := 31) hx hb dX12_triesGroup_24 (of_decide_eq_true rfl) (fun c_4 => ?_) (fun c_4 => ?_)
      · have hfn := (if_neg c_4).symm.trans hfn
        refine lv_aload_n hx hb dX12_triesGroup_31 rfl (lv_at hl 1 rfl) ?_
        refine va_get (D := (dC, dI)) (ci := 12) (v := .ref (a0 39)) (C := RX12) (T := TX12) (N := 67) hx hb hts zn_X12_triesGroup_X12 hown hK hP 0 rfl rfl 39 (of_decide_eq_true rfl) (hts (.fieldLink RX12 132 "ShortEnoughModel" "tried" "[I") zw_X12_triesGroup_1139) (fun _ h9 => h9) rfl dX12_triesGroup_32 ?_
        refine lv_iload_n hx hb dX12_triesGroup_35 rfl (lv_at hl 0 rfl) ?_
        obtain ⟨h_5, hfn⟩ := zg_s hfn
        refine va_iald hx hb hK hP 3 2 rfl rfl h_5 dX12_triesGroup_36 ?_
        refine va_iast hx hb hK hP hD hS 3 2 rfl rfl h_5 dX12_triesGroup_37 (fun H locs hP hD hS => ?_)
        have hP : va_P (dC, dI) vwCl [(h0, .inr (12, zO a0 b0 c0)), zVi (a0 17) k1 2 f1, zVi (a0 27) k2 28 f2, zVi (a0 39) k3 14 (upd s_1.2 s_1.1.toNatClampNeg (s_1.2 s_1.1.toNatClampNeg))] H := hP
        have hD := zDW hD hP rfl
        refine lv_iinc (v := (s_1.1 + 1)) (lv' := [(3, .int (s_1.1 + 1)), (0, .ref h0), (1, .int p1), (2, .int p2)]) hx hb dX12_triesGroup_38 hl (k := 0) rfl rfl (of_decide_eq_true rfl) rfl (fun ls hl => ?_)
        refine lv_goto (tgt := 2) hx hb dX12_triesGroup_41 (of_decide_eq_true rfl) ?_
        exact ih_1 ((s_1.1 + 1), (upd s_1.2 s_1.1.toNatClampNeg (s_1.2 s_1.1.toNatClampNeg))) H locs ls hfn hP hD hS (lv_sub hl [0, 1, 2, 3] rfl)
      have hfn := (if_pos c_4).symm.trans hfn
      refine lv_iload_n hx hb dX12_triesGroup_27 rfl (lv_at hl 3 rfl) ?_
      refine lv_goto (tgt := 37) hx hb dX12_triesGroup_28 (of_decide_eq_true rfl) ?_
      obtain ⟨h_6, hfn⟩ := zg_s hfn
      refine va_iast hx hb hK hP hD hS 3 2 rfl rfl h_6 dX12_triesGroup_37 (fun H locs hP hD hS => ?_)
      have hP : va_P (dC, dI) vwCl [(h0, .inr (12, zO a0 b0 c0)), zVi (a0 17) k1 2 f1, zVi (a0 27) k2 28 f2, zVi (a0 39) k3 14 (upd s_1.2 s_1.1.toNatClampNeg p2)] H := hP
      have hD := zDW hD hP rfl
      refine lv_iinc (v := (s_1.1 + 1)) (lv' := [(3, .int (s_1.1 + 1)), (0, .ref h0), (1, .int p1), (2, .int p2)]) hx hb dX12_triesGroup_38 hl (k := 0) rfl rfl (of_decide_eq_true rfl) rfl (fun ls hl => ?_)
      refine lv_goto (tgt := 2) hx hb dX12_triesGroup_41 (of_decide_eq_true rfl) ?_
      exact ih_1 ((s_1.1 + 1), (upd s_1.2 s_1.1.toNatClampNeg p2)) H locs ls hfn hP hD hS (lv_sub hl [0, 1, 2, 3] rfl)
  exact lp_1 _ (0, f3) s.heap [] ls hfn hP hD hS (lv_sub hl [0, 1, 2, 3] rfl)
theorem zn_X12_castError_X12 : ∀ w ∈ wsX120, w ∈ wsX12_castError := fun _ h => List.mem_cons_of_mem _ (List.mem_append_right _ h)
theorem zw_X12_castError_1142 : Cond.fieldLink RX12 53 "ShortEnoughModel" "step" "[I" ∈ wsX12_castError := List.mem_of_getElem? (i := 1) (by decide +kernel)
theorem zw_X12_castError_1143 : Cond.fieldLink RX12 132 "ShortEnoughModel" "tried" "[I" ∈ wsX12_castError := List.mem_of_getElem? (i := 2) (by decide +kernel)
theorem zw_X12_castError_1144 : Cond.fieldLink RX12 71 "ShortEnoughModel" "first" "[I" ∈ wsX12_castError := List.mem_of_getElem? (i := 4) (by decide +kernel)
theorem zw_X12_castError_1145 : Cond.fieldLink RX12 74 "ShortEnoughModel" "second" "[I" ∈ wsX12_castError := List.mem_of_getElem? (i := 3) (by decide +kernel)
theorem zw_X12_castError_1146 : Cond.fieldLink RX12 135 "ShortEnoughModel" "error" "[J" ∈ wsX12_castError := List.mem_of_getElem? (i := 8) (by decide +kernel)
theorem zw_X12_castError_1147 : Cond.constantLong RX12 383 (2) ∈ wsX12_castError := List.mem_of_getElem? (i := 7) (by decide +kernel)
theorem zw_X12_castError_1148 : Cond.fieldLink RX12 77 "ShortEnoughModel" "firstV" "[J" ∈ wsX12_castError := List.mem_of_getElem? (i := 6) (by decide +kernel)
theorem zw_X12_castError_1149 : Cond.fieldLink RX12 81 "ShortEnoughModel" "secondV" "[J" ∈ wsX12_castError := List.mem_of_getElem? (i := 5) (by decide +kernel)
set_option maxHeartbeats 4000000 in
set_option maxRecDepth 100000 in
theorem zf_X12_castError (l : Launch) (dC : Nat → ClassId) (dI : Nat → Nat → Nat) (h0 : Nat) (p1 : Int32) (p2 : Int32) (a0 : Nat → Nat) (b0 : Nat → Int32) (c0 : Nat → Int64) (k1 : Nat) (f1 : Nat → Int32) (k2 : Nat) (f2 : Nat → Int32) (k3 : Nat) (f3 : Nat → Int32) (k4 : Nat) (f4 : Nat → Int32) (k5 : Nat) (f5 : Nat → Int64) (k6 : Nat) (f6 : Nat → Int64) (k7 : Nat) (f7 : Nat → Int64) (o : Int64) (hfn : fn_X12_castError p1 p2 f1 f2 f3 f4 f5 f6 f7 = some o) (sz : Nat) : zMl l yX12_castError wsX12_castError ({ frames := 0, cells := 0, slots := 0, locals := 0 }) (dC, dI) vwCl [.ref h0, .int p1, .int p2] [(h0, .inr (12, zO a0 b0 c0)), zVi (a0 39) k1 14 f1, zVi (a0 14) k2 8 f2, zVi (a0 20) k3 28 f3, zVi (a0 21) k4 28 f4, zVl (a0 40) k5 14 f5, zVl (a0 22) k6 28 f6, zVl (a0 23) k7 28 f7] [(k1, .int), (k2, .int), (k3, .int), (k4, .int), (k5, .long), (k6, .long), (k7, .long)] (fun r _ => r = o) [(h0, .inr (12, zO a0 b0 c0)), zVi (a0 39) k1 14 f1, zVi (a0 14) k2 8 f2, zVi (a0 20) k3 28 f3, zVi (a0 21) k4 28 f4, zVl (a0 40) k5 14 f5, zVl (a0 22) k6 28 f6, zVl (a0 23) k7 28 f7] [(k1, .int), (k2, .int), (k3, .int), (k4, .int), (k5, .long), (k6, .long), (k7, .long)] sz := by
  refine zgol (cc := cX12_castError) (maxL := 6) (ret := (some .long)) (C0 := RX12) (lv0 := [(0, .ref h0), (1, .int p1), (2, .int p2)]) zpl_X12 rfl rfl rfl (Nat.le_of_ble_eq_true rfl) ?_
  intro p e s m below meth c A ls Q hx hb hr hts hown hlocks hml hP hK hD hA hS hl hQ
  unfold fn_X12_castError at hfn
  refine lv_aload_n hx hb dX12_castError_0 rfl (lv_at hl 0 rfl) ?_
  refine va_get (D := (dC, dI)) (ci := 12) (v := .ref (a0 14)) (C := RX12) (T := TX12) (N := 67) hx hb hts zn_X12_castError_X12 hown hK hP 0 rfl rfl 14 (of_decide_eq_true rfl) (hts (.fieldLink RX12 53 "ShortEnoughModel" "step" "[I") zw_X12_castError_1142) (fun _ h9 => h9) rfl dX12_castError_1 ?_
  refine lv_aload_n hx hb dX12_castError_4 rfl (lv_at hl 0 rfl) ?_
  refine va_get (D := (dC, dI)) (ci := 12) (v := .ref (a0 39)) (C := RX12) (T := TX12) (N := 67) hx hb hts zn_X12_castError_X12 hown hK hP 0 rfl rfl 39 (of_decide_eq_true rfl) (hts (.fieldLink RX12 132 "ShortEnoughModel" "tried" "[I") zw_X12_castError_1143) (fun _ h9 => h9) rfl dX12_castError_5 ?_
  refine lv_iload_n hx hb dX12_castError_8 rfl (lv_at hl 1 rfl) ?_
  obtain ⟨h_1, hfn⟩ := zg_s hfn
  refine va_iald hx hb hK hP 1 0 rfl rfl h_1 dX12_castError_9 ?_
  obtain ⟨h_2, hfn⟩ := zg_s hfn
  refine va_iald hx hb hK hP 2 1 rfl rfl h_2 dX12_castError_10 ?_
  refine lv_i2l (v := (f2 (f1 p1.toNatClampNeg).toNatClampNeg).toInt64) hx hb dX12_castError_11 rfl ?_
  refine lv_lstore_n (lv' := [(3, .long (f2 (f1 p1.toNatClampNeg).toNatClampNeg).toInt64), (0, .ref h0), (1, .int p1), (2, .int p2)]) hx hb dX12_castError_12 rfl hl (of_decide_eq_true rfl) rfl (fun ls hl => ?_)
  refine lv_iload_n hx hb dX12_castError_13 rfl (lv_at hl 3 rfl) ?_
  obtain ⟨j_3, ej_3, hfn⟩ := zj_g hfn
  have jp_3 : ∀ (s_3 : Int32) (H : Heap) (locs : List Loc) (ls : Array Slot), j_3 s_3 = some o → va_P (dC, dI) vwCl [(h0, .inr (12, zO a0 b0 c0)), zVi (a0 39) k1 14 f1, zVi (a0 14) k2 8 f2, zVi (a0 20) k3 28 f3, zVi (a0 21) k4 28 f4, zVl (a0 40) k5 14 f5, zVl (a0 22) k6 28 f6, zVl (a0 23) k7 28 f7] H → va_D A [(h0, .inr (12, zO a0 b0 c0)), zVi (a0 39) k1 14 f1, zVi (a0 14) k2 8 f2, zVi (a0 20) k3 28 f3, zVi (a0 21) k4 28 f4, zVl (a0 40) k5 14 f5, zVl (a0 22) k6 28 f6, zVl (a0 23) k7 28 f7] → va_S A s.heap H locs → lv_has ls 6 [(3, .long (f2 (f1 p1.toNatClampNeg).toNatClampNeg).toInt64), (0, .ref h0), (1, .int p1), (2, .int p2)] → W p l e (headSpec wsX12_castError ({ frames := 0, cells := 0, slots := 0, locals := 0 })).room s m ([.ref h0, .int p1, .int p2] : List Value).toArray below meth c H locs 0 0 Q (F0 m 32 ls [.int s_3]) := by
    intro s_3 H locs ls hfn hP hD hS hl
    have hfn := zj_s ej_3 hfn
    refine lv_istore (lv' := [(5, .int s_3), (3, .long (f2 (f1 p1.toNatClampNeg).toNatClampNeg).toInt64), (0, .ref h0), (1, .int p1), (2, .int p2)]) hx hb dX12_castError_32 hl (of_decide_eq_true rfl) rfl (fun ls hl => ?_)
    refine lv_iload hx hb dX12_castError_34 (lv_at hl 0 rfl) ?_
    refine lv_iconst (v := (-1)) hx hb dX12_castError_36 zci_m1 ?_
    refine lv_icmp_ne (tgt := 76) hx hb dX12_castError_37 (of_decide_eq_true rfl) (fun c_4 => ?_) (fun c_4 => ?_)
    · have hfn := (if_neg c_4).symm.trans hfn
      refine lv_aload_n hx hb dX12_castError_76 rfl (lv_at hl 2 rfl) ?_
      refine va_get (D := (dC, dI)) (ci := 12) (v := .ref (a0 14)) (C := RX12) (T := TX12) (N := 67) hx hb hts zn_X12_castError_X12 hown hK hP 0 rfl rfl 14 (of_decide_eq_true rfl) (hts (.fieldLink RX12 53 "ShortEnoughModel" "step" "[I") zw_X12_castError_1142) (fun _ h9 => h9) rfl dX12_castError_77 ?_
      refine lv_aload_n hx hb dX12_castError_80 rfl (lv_at hl 2 rfl) ?_
      refine va_get (D := (dC, dI)) (ci := 12) (v := .ref (a0 39)) (C := RX12) (T := TX12) (N := 67) hx hb hts zn_X12_castError_X12 hown hK hP 0 rfl rfl 39 (of_decide_eq_true rfl) (hts (.fieldLink RX12 132 "ShortEnoughModel" "tried" "[I") zw_X12_castError_1143) (fun _ h9 => h9) rfl dX12_castError_81 ?_
      refine lv_iload hx hb dX12_castError_84 (lv_at hl 0 rfl) ?_
      obtain ⟨h_5, hfn⟩ := zg_s hfn
      refine va_iald hx hb hK hP 1 0 rfl rfl h_5 dX12_castError_86 ?_
      obtain ⟨h_6, hfn⟩ := zg_s hfn
      refine va_iald hx hb hK hP 2 1 rfl rfl h_6 dX12_castError_87 ?_
      refine lv_i2l (v := (f2 (f1 s_3.toNatClampNeg).toNatClampNeg).toInt64) hx hb dX12_castError_88 rfl ?_
      refine lv_lload_n hx hb dX12_castError_89 rfl (lv_at hl 1 rfl) ?_
      obtain ⟨h_7, hfn⟩ := zd_s hfn
      refine lv_lrem hx hb dX12_castError_90 h_7 ?_
      refine lv_topl (fun x_8 ex_8 => ?_)
      have hfn := zn_s hfn ex_8
      refine lv_lconst (v := 0) hx hb dX12_castError_91 (by decide +kernel) ?_
      refine W.lcmp hx hb dX12_castError_92 ?_
      refine lv_if_ne (tgt := 106) hx hb dX12_castError_93 (of_decide_eq_true rfl) (fun c_9 => ?_) (fun c_9 => ?_)
      · have hfn := (if_neg c_9).symm.trans hfn
        refine lv_aload_n hx hb dX12_castError_106 rfl (lv_at hl 2 rfl) ?_
        refine va_get (D := (dC, dI)) (ci := 12) (v := .ref (a0 40)) (C := RX12) (T := TX12) (N := 67) hx hb hts zn_X12_castError_X12 hown hK hP 0 rfl rfl 40 (of_decide_eq_true rfl) (hts (.fieldLink RX12 135 "ShortEnoughModel" "error" "[J") zw_X12_castError_1146) (fun _ h9 => h9) rfl dX12_castError_107 ?_
        refine lv_iload hx hb dX12_castError_110 (lv_at hl 0 rfl) ?_
        refine va_lald hx hb hK hP 5 4 rfl rfl h_5 dX12_castError_112 ?_
        refine lv_lload_n hx hb dX12_castError_113 rfl (lv_at hl 1 rfl) ?_
        refine lv_ldc2 (v := 2) hx hb hown (hts (.constantLong RX12 383 (2)) zw_X12_castError_1147) dX12_castError_114 ?_
        refine lv_ldiv hx hb dX12_castError_117 (by decide +kernel) ?_
        refine lv_ladd hx hb dX12_castError_118 ?_
        refine lv_topl (fun x_10 ex_10 => ?_)
        have hfn := zn_s hfn ex_10
        have ho := Option.some.inj hfn
        subst ho
        exact zrl hx hb hr hK hP hD hS hQ rfl hlocks dX12_castError_119
      have hfn := (if_pos c_9).symm.trans hfn
      refine lv_aload_n hx hb dX12_castError_96 rfl (lv_at hl 2 rfl) ?_
      refine va_get (D := (dC, dI)) (ci := 12) (v := .ref (a0 40)) (C := RX12) (T := TX12) (N := 67) hx hb hts zn_X12_castError_X12 hown hK hP 0 rfl rfl 40 (of_decide_eq_true rfl) (hts (.fieldLink RX12 135 "ShortEnoughModel" "error" "[J") zw_X12_castError_1146) (fun _ h9 => h9) rfl dX12_castError_97 ?_
      refine lv_iload hx hb dX12_castError_100 (lv_at hl 0 rfl) ?_
      refine va_lald hx hb hK hP 5 4 rfl rfl h_5 dX12_castError_102 ?_
      refine lv_goto (tgt := 119) hx hb dX12_castError_103 (of_decide_eq_true rfl) ?_
      have ho := Option.some.inj hfn
      subst ho
      exact zrl hx hb hr hK hP hD hS hQ rfl hlocks dX12_castError_119
    have hfn := (if_pos c_4).symm.trans hfn
    refine lv_iload_n hx hb dX12_castError_40 rfl (lv_at hl 4 rfl) ?_
    obtain ⟨j_11, ej_11, hfn⟩ := zj_g hfn
    have jp_11 : ∀ (s_11 : Int64) (H : Heap) (locs : List Loc) (ls : Array Slot), j_11 s_11 = some o → va_P (dC, dI) vwCl [(h0, .inr (12, zO a0 b0 c0)), zVi (a0 39) k1 14 f1, zVi (a0 14) k2 8 f2, zVi (a0 20) k3 28 f3, zVi (a0 21) k4 28 f4, zVl (a0 40) k5 14 f5, zVl (a0 22) k6 28 f6, zVl (a0 23) k7 28 f7] H → va_D A [(h0, .inr (12, zO a0 b0 c0)), zVi (a0 39) k1 14 f1, zVi (a0 14) k2 8 f2, zVi (a0 20) k3 28 f3, zVi (a0 21) k4 28 f4, zVl (a0 40) k5 14 f5, zVl (a0 22) k6 28 f6, zVl (a0 23) k7 28 f7] → va_S A s.heap H locs → lv_has ls 6 [(3, .long (f2 (f1 p1.toNatClampNeg).toNatClampNeg).toInt64)] → W p l e (headSpec wsX12_castError ({ frames := 0, cells := 0, slots := 0, locals := 0 })).room s m ([.ref h0, .int p1, .int p2] : List Value).toArray below meth c H locs 0 0 Q (F0 m 59 ls [.long s_11]) := by
      intro s_11 H locs ls hfn hP hD hS hl
      have hfn := zj_s ej_11 hfn
      refine lv_lload_n hx hb dX12_castError_59 rfl (lv_at hl 0 rfl) ?_
      obtain ⟨h_12, hfn⟩ := zd_s hfn
      refine lv_lrem hx hb dX12_castError_60 h_12 ?_
      refine lv_topl (fun x_13 ex_13 => ?_)
      have hfn := zn_s hfn ex_13
      refine lv_lconst (v := 0) hx hb dX12_castError_61 (by decide +kernel) ?_
      refine W.lcmp hx hb dX12_castError_62 ?_
      refine lv_if_ne (tgt := 70) hx hb dX12_castError_63 (of_decide_eq_true rfl) (fun c_14 => ?_) (fun c_14 => ?_)
      · have hfn := (if_neg c_14).symm.trans hfn
        refine lv_lload_n hx hb dX12_castError_70 rfl (lv_at hl 0 rfl) ?_
        refine lv_ldc2 (v := 2) hx hb hown (hts (.constantLong RX12 383 (2)) zw_X12_castError_1147) dX12_castError_71 ?_
        refine lv_ldiv hx hb dX12_castError_74 (by decide +kernel) ?_
        have ho := Option.some.inj hfn
        subst ho
        exact zrl hx hb hr hK hP hD hS hQ rfl hlocks dX12_castError_75
      have hfn := (if_pos c_14).symm.trans hfn
      refine lv_lconst (v := 0) hx hb dX12_castError_66 (by decide +kernel) ?_
      refine lv_goto (tgt := 75) hx hb dX12_castError_67 (of_decide_eq_true rfl) ?_
      have ho := Option.some.inj hfn
      subst ho
      exact zrl hx hb hr hK hP hD hS hQ rfl hlocks dX12_castError_75
    refine lv_if_eq (tgt := 53) hx hb dX12_castError_41 (of_decide_eq_true rfl) (fun c_15 => ?_) (fun c_15 => ?_)
    · have hfn := (if_pos c_15).symm.trans hfn
      refine lv_aload_n hx hb dX12_castError_53 rfl (lv_at hl 2 rfl) ?_
      refine va_get (D := (dC, dI)) (ci := 12) (v := .ref (a0 22)) (C := RX12) (T := TX12) (N := 67) hx hb hts zn_X12_castError_X12 hown hK hP 0 rfl rfl 22 (of_decide_eq_true rfl) (hts (.fieldLink RX12 77 "ShortEnoughModel" "firstV" "[J") zw_X12_castError_1148) (fun _ h9 => h9) rfl dX12_castError_54 ?_
      refine lv_iload_n hx hb dX12_castError_57 rfl (lv_at hl 3 rfl) ?_
      obtain ⟨h_16, hfn⟩ := zg_s hfn
      refine va_lald hx hb hK hP 6 5 rfl rfl h_16 dX12_castError_58 ?_
      exact jp_11 (f6 p1.toNatClampNeg) H locs ls hfn hP hD hS (lv_sub hl [1] rfl)
    have hfn := (if_neg c_15).symm.trans hfn
    refine lv_aload_n hx hb dX12_castError_44 rfl (lv_at hl 2 rfl) ?_
    refine va_get (D := (dC, dI)) (ci := 12) (v := .ref (a0 23)) (C := RX12) (T := TX12) (N := 67) hx hb hts zn_X12_castError_X12 hown hK hP 0 rfl rfl 23 (of_decide_eq_true rfl) (hts (.fieldLink RX12 81 "ShortEnoughModel" "secondV" "[J") zw_X12_castError_1149) (fun _ h9 => h9) rfl dX12_castError_45 ?_
    refine lv_iload_n hx hb dX12_castError_48 rfl (lv_at hl 3 rfl) ?_
    obtain ⟨h_17, hfn⟩ := zg_s hfn
    refine va_lald hx hb hK hP 7 6 rfl rfl h_17 dX12_castError_49 ?_
    refine lv_goto (tgt := 59) hx hb dX12_castError_50 (of_decide_eq_true rfl) ?_
    exact jp_11 (f7 p1.toNatClampNeg) H locs ls hfn hP hD hS (lv_sub hl [1] rfl)
  refine lv_if_eq (tgt := 26) hx hb dX12_castError_14 (of_decide_eq_true rfl) (fun c_18 => ?_) (fun c_18 => ?_)
  · have hfn := (if_pos c_18).symm.trans hfn
    refine lv_aload_n hx hb dX12_castError_26 rfl (lv_at hl 1 rfl) ?_
    refine va_get (D := (dC, dI)) (ci := 12) (v := .ref (a0 20)) (C := RX12) (T := TX12) (N := 67) hx hb hts zn_X12_castError_X12 hown hK hP 0 rfl rfl 20 (of_decide_eq_true rfl) (hts (.fieldLink RX12 71 "ShortEnoughModel" "first" "[I") zw_X12_castError_1144) (fun _ h9 => h9) rfl dX12_castError_27 ?_
    refine lv_iload_n hx hb dX12_castError_30 rfl (lv_at hl 2 rfl) ?_
    obtain ⟨h_19, hfn⟩ := zg_s hfn
    refine va_iald hx hb hK hP 3 2 rfl rfl h_19 dX12_castError_31 ?_
    exact jp_3 (f3 p1.toNatClampNeg) s.heap [] ls hfn hP hD hS (lv_sub hl [0, 1, 2, 3] rfl)
  have hfn := (if_neg c_18).symm.trans hfn
  refine lv_aload_n hx hb dX12_castError_17 rfl (lv_at hl 1 rfl) ?_
  refine va_get (D := (dC, dI)) (ci := 12) (v := .ref (a0 21)) (C := RX12) (T := TX12) (N := 67) hx hb hts zn_X12_castError_X12 hown hK hP 0 rfl rfl 21 (of_decide_eq_true rfl) (hts (.fieldLink RX12 74 "ShortEnoughModel" "second" "[I") zw_X12_castError_1145) (fun _ h9 => h9) rfl dX12_castError_18 ?_
  refine lv_iload_n hx hb dX12_castError_21 rfl (lv_at hl 2 rfl) ?_
  obtain ⟨h_20, hfn⟩ := zg_s hfn
  refine va_iald hx hb hK hP 4 3 rfl rfl h_20 dX12_castError_22 ?_
  refine lv_goto (tgt := 32) hx hb dX12_castError_23 (of_decide_eq_true rfl) ?_
  exact jp_3 (f4 p1.toNatClampNeg) s.heap [] ls hfn hP hD hS (lv_sub hl [0, 1, 2, 3] rfl)
theorem zn_X12_laysError_X12 : ∀ w ∈ wsX120, w ∈ wsX12_laysError := fun _ h => List.mem_cons_of_mem _ (List.mem_append_right _ h)
theorem zw_X12_laysError_1151 : Cond.fieldLink RX12 53 "ShortEnoughModel" "step" "[I" ∈ wsX12_laysError := List.mem_of_getElem? (i := 1) (by decide +kernel)
theorem zw_X12_laysError_1152 : Cond.fieldLink RX12 132 "ShortEnoughModel" "tried" "[I" ∈ wsX12_laysError := List.mem_of_getElem? (i := 2) (by decide +kernel)
theorem zw_X12_laysError_1153 : Cond.constantLong RX12 383 (2) ∈ wsX12_laysError := List.mem_of_getElem? (i := 3) (by decide +kernel)
theorem zw_X12_laysError_1154 : Cond.fieldLink RX12 68 "ShortEnoughModel" "op" "[I" ∈ wsX12_laysError := List.mem_of_getElem? (i := 4) (by decide +kernel)
theorem zw_X12_laysError_1155 : Cond.fieldLink RX12 135 "ShortEnoughModel" "error" "[J" ∈ wsX12_laysError := List.mem_of_getElem? (i := 5) (by decide +kernel)
theorem zw_X12_laysError_1156 : Cond.constantLong RX12 388 (1000) ∈ wsX12_laysError := List.mem_of_getElem? (i := 6) (by decide +kernel)
set_option maxHeartbeats 4000000 in
set_option maxRecDepth 100000 in
theorem zf_X12_laysError (l : Launch) (dC : Nat → ClassId) (dI : Nat → Nat → Nat) (h0 : Nat) (p1 : Int32) (a0 : Nat → Nat) (b0 : Nat → Int32) (c0 : Nat → Int64) (k1 : Nat) (f1 : Nat → Int32) (k2 : Nat) (f2 : Nat → Int32) (k3 : Nat) (f3 : Nat → Int32) (k4 : Nat) (f4 : Nat → Int32) (k5 : Nat) (f5 : Nat → Int32) (k6 : Nat) (f6 : Nat → Int64) (k7 : Nat) (f7 : Nat → Int64) (k8 : Nat) (f8 : Nat → Int64) (k9 : Nat) (f9 : Nat → Int64) (k10 : Nat) (f10 : Nat → Int64) (o : (Nat → Int64)) (hfn : fn_X12_laysError p1 f1 f2 f3 f4 f5 f6 f7 f8 f9 f10 = some o) (sz : Nat) : zMv l yX12_laysError wsX12_laysError ({ frames := 1, cells := 0, slots := 0, locals := 25 }) (dC, dI) vwCl [.ref h0, .int p1] [(h0, .inr (12, zO a0 b0 c0)), zVi (a0 39) k1 14 f1, zVi (a0 14) k2 8 f2, zVi (a0 19) k3 28 f3, zVi (a0 20) k4 28 f4, zVi (a0 21) k5 28 f5, zVl (a0 40) k6 14 f6, zVl (a0 22) k7 28 f7, zVl (a0 23) k8 28 f8, zVl (a0 31) k9 14 f9, zVl (a0 32) k10 14 f10] [(k1, .int), (k2, .int), (k3, .int), (k4, .int), (k5, .int), (k6, .long), (k7, .long), (k8, .long), (k9, .long), (k10, .long)] (fun _ => True) [(h0, .inr (12, zO a0 b0 c0)), zVi (a0 39) k1 14 f1, zVi (a0 14) k2 8 f2, zVi (a0 19) k3 28 f3, zVi (a0 20) k4 28 f4, zVi (a0 21) k5 28 f5, zVl (a0 40) k6 14 o, zVl (a0 22) k7 28 f7, zVl (a0 23) k8 28 f8, zVl (a0 31) k9 14 f9, zVl (a0 32) k10 14 f10] [(k1, .int), (k2, .int), (k3, .int), (k4, .int), (k5, .int), (k6, .long), (k7, .long), (k8, .long), (k9, .long), (k10, .long)] sz := by
  refine zgov (cc := cX12_laysError) (maxL := 12) (ret := none) (C0 := RX12) (lv0 := [(0, .ref h0), (1, .int p1)]) zpl_X12 rfl rfl rfl (Nat.le_of_ble_eq_true rfl) ?_
  intro p e s m below meth c A ls Q hx hb hr hts hown hlocks hml hP hK hD hA hS hl hQ
  unfold fn_X12_laysError at hfn
  refine lv_aload_n hx hb dX12_laysError_0 rfl (lv_at hl 0 rfl) ?_
  refine va_get (D := (dC, dI)) (ci := 12) (v := .ref (a0 14)) (C := RX12) (T := TX12) (N := 67) hx hb hts zn_X12_laysError_X12 hown hK hP 0 rfl rfl 14 (of_decide_eq_true rfl) (hts (.fieldLink RX12 53 "ShortEnoughModel" "step" "[I") zw_X12_laysError_1151) (fun _ h9 => h9) rfl dX12_laysError_1 ?_
  refine lv_aload_n hx hb dX12_laysError_4 rfl (lv_at hl 0 rfl) ?_
  refine va_get (D := (dC, dI)) (ci := 12) (v := .ref (a0 39)) (C := RX12) (T := TX12) (N := 67) hx hb hts zn_X12_laysError_X12 hown hK hP 0 rfl rfl 39 (of_decide_eq_true rfl) (hts (.fieldLink RX12 132 "ShortEnoughModel" "tried" "[I") zw_X12_laysError_1152) (fun _ h9 => h9) rfl dX12_laysError_5 ?_
  refine lv_iload_n hx hb dX12_laysError_8 rfl (lv_at hl 1 rfl) ?_
  obtain ⟨h_1, hfn⟩ := zg_s hfn
  refine va_iald hx hb hK hP 1 0 rfl rfl h_1 dX12_laysError_9 ?_
  obtain ⟨h_2, hfn⟩ := zg_s hfn
  refine va_iald hx hb hK hP 2 1 rfl rfl h_2 dX12_laysError_10 ?_
  refine lv_i2l (v := (f2 (f1 p1.toNatClampNeg).toNatClampNeg).toInt64) hx hb dX12_laysError_11 rfl ?_
  refine lv_ldc2 (v := 2) hx hb hown (hts (.constantLong RX12 383 (2)) zw_X12_laysError_1153) dX12_laysError_12 ?_
  refine lv_ldiv hx hb dX12_laysError_15 (by decide +kernel) ?_
  refine lv_lstore_n (lv' := [(2, .long ((f2 (f1 p1.toNatClampNeg).toNatClampNeg).toInt64 / (2 : Int64))), (0, .ref h0), (1, .int p1)]) hx hb dX12_laysError_16 rfl hl (of_decide_eq_true rfl) rfl (fun ls hl => ?_)
  refine lv_aload_n hx hb dX12_laysError_17 rfl (lv_at hl 1 rfl) ?_
  refine va_get (D := (dC, dI)) (ci := 12) (v := .ref (a0 19)) (C := RX12) (T := TX12) (N := 67) hx hb hts zn_X12_laysError_X12 hown hK hP 0 rfl rfl 19 (of_decide_eq_true rfl) (hts (.fieldLink RX12 68 "ShortEnoughModel" "op" "[I") zw_X12_laysError_1154) (fun _ h9 => h9) rfl dX12_laysError_18 ?_
  refine lv_iload_n hx hb dX12_laysError_21 rfl (lv_at hl 2 rfl) ?_
  obtain ⟨h_3, hfn⟩ := zg_s hfn
  refine va_iald hx hb hK hP 3 2 rfl rfl h_3 dX12_laysError_22 ?_
  refine lv_if_ne (tgt := 34) hx hb dX12_laysError_23 (of_decide_eq_true rfl) (fun c_4 => ?_) (fun c_4 => ?_)
  · have hfn := (if_neg c_4).symm.trans hfn
    refine lv_aload_n hx hb dX12_laysError_34 rfl (lv_at hl 1 rfl) ?_
    refine lv_iload_n hx hb dX12_laysError_35 rfl (lv_at hl 2 rfl) ?_
    refine lv_iconst (v := 0) hx hb dX12_laysError_36 zci_0 ?_
    obtain ⟨o_5, hqo_5, hfn⟩ := zb_s hfn
    refine zcVl (ci := 12) (rest := []) (pc' := 40) (ws' := [(h0, .inr (12, zO a0 b0 c0)), zVi (a0 39) k1 14 f1, zVi (a0 14) k2 8 f2, zVi (a0 19) k3 28 f3, zVi (a0 20) k4 28 f4, zVi (a0 21) k5 28 f5, zVl (a0 40) k6 14 f6, zVl (a0 22) k7 28 f7, zVl (a0 23) k8 28 f8, zVl (a0 31) k9 14 f9, zVl (a0 32) k10 14 f10]) hP hK hD hS hA ⟨hx, hb, hml, hown, hts⟩ (zf_X12_castError l dC dI h0 p1 0 a0 b0 c0 k1 f1 k2 f2 k4 f4 k5 f5 k6 f6 k7 f7 k8 f8 o_5 hqo_5 s.heap.size) (cwV 2 hts gX12_laysError_X12_castError rfl rfl rfl zhd_X12_castError ⟨Nat.le_of_ble_eq_true rfl, Nat.le_of_ble_eq_true rfl⟩) [0, 1, 2, 4, 5, 6, 7, 8] rfl (of_decide_eq_true rfl) [0, 1, 3, 4, 5, 6, 7] rfl rfl rfl rfl hl.1 rfl (Nat.le_of_ble_eq_true rfl) dX12_laysError_37 ⟨Nat.le_of_ble_eq_true rfl, Nat.le_of_ble_eq_true rfl⟩ [some 0, some 1, some 2, none, some 3, some 4, some 5, some 6, some 7] (of_decide_eq_true rfl) (of_decide_eq_true rfl) rfl rfl rfl (fun H locs hP hD hS => ?_)
    refine lv_lstore (lv' := [(4, .long o_5), (2, .long ((f2 (f1 p1.toNatClampNeg).toNatClampNeg).toInt64 / (2 : Int64))), (0, .ref h0), (1, .int p1)]) hx hb dX12_laysError_40 hl (of_decide_eq_true rfl) rfl (fun ls hl => ?_)
    refine lv_aload_n hx hb dX12_laysError_42 rfl (lv_at hl 2 rfl) ?_
    refine lv_iload_n hx hb dX12_laysError_43 rfl (lv_at hl 3 rfl) ?_
    refine lv_iconst (v := 1) hx hb dX12_laysError_44 zci_1 ?_
    obtain ⟨o_9, hqo_9, hfn⟩ := zb_s hfn
    refine zcVl (ci := 12) (rest := []) (pc' := 48) (ws' := [(h0, .inr (12, zO a0 b0 c0)), zVi (a0 39) k1 14 f1, zVi (a0 14) k2 8 f2, zVi (a0 19) k3 28 f3, zVi (a0 20) k4 28 f4, zVi (a0 21) k5 28 f5, zVl (a0 40) k6 14 f6, zVl (a0 22) k7 28 f7, zVl (a0 23) k8 28 f8, zVl (a0 31) k9 14 f9, zVl (a0 32) k10 14 f10]) hP hK hD hS hA ⟨hx, hb, hml, hown, hts⟩ (zf_X12_castError l dC dI h0 p1 1 a0 b0 c0 k1 f1 k2 f2 k4 f4 k5 f5 k6 f6 k7 f7 k8 f8 o_9 hqo_9 H.size) (cwV 2 hts gX12_laysError_X12_castError rfl rfl rfl zhd_X12_castError ⟨Nat.le_of_ble_eq_true rfl, Nat.le_of_ble_eq_true rfl⟩) [0, 1, 2, 4, 5, 6, 7, 8] rfl (of_decide_eq_true rfl) [0, 1, 3, 4, 5, 6, 7] rfl rfl rfl rfl hl.1 rfl (Nat.le_of_ble_eq_true rfl) dX12_laysError_45 ⟨Nat.le_of_ble_eq_true rfl, Nat.le_of_ble_eq_true rfl⟩ [some 0, some 1, some 2, none, some 3, some 4, some 5, some 6, some 7] (of_decide_eq_true rfl) (of_decide_eq_true rfl) rfl rfl rfl (fun H locs hP hD hS => ?_)
    refine lv_lstore (lv' := [(6, .long o_9), (4, .long o_5), (2, .long ((f2 (f1 p1.toNatClampNeg).toNatClampNeg).toInt64 / (2 : Int64))), (0, .ref h0), (1, .int p1)]) hx hb dX12_laysError_48 hl (of_decide_eq_true rfl) rfl (fun ls hl => ?_)
    refine lv_aload_n hx hb dX12_laysError_50 rfl (lv_at hl 3 rfl) ?_
    refine va_get (D := (dC, dI)) (ci := 12) (v := .ref (a0 19)) (C := RX12) (T := TX12) (N := 67) hx hb hts zn_X12_laysError_X12 hown hK hP 0 rfl rfl 19 (of_decide_eq_true rfl) (hts (.fieldLink RX12 68 "ShortEnoughModel" "op" "[I") zw_X12_laysError_1154) (fun _ h9 => h9) rfl dX12_laysError_51 ?_
    refine lv_iload_n hx hb dX12_laysError_54 rfl (lv_at hl 4 rfl) ?_
    refine va_iald hx hb hK hP 3 2 rfl rfl h_3 dX12_laysError_55 ?_
    refine lv_iconst (v := 1) hx hb dX12_laysError_56 zci_1 ?_
    obtain ⟨j_13, ej_13, hfn⟩ := zj_g hfn
    have jp_13 : ∀ (s_13 : Unit) (H : Heap) (locs : List Loc) (ls : Array Slot), j_13 s_13 = some o → va_P (dC, dI) vwCl [(h0, .inr (12, zO a0 b0 c0)), zVi (a0 39) k1 14 f1, zVi (a0 14) k2 8 f2, zVi (a0 19) k3 28 f3, zVi (a0 20) k4 28 f4, zVi (a0 21) k5 28 f5, zVl (a0 40) k6 14 f6, zVl (a0 22) k7 28 f7, zVl (a0 23) k8 28 f8, zVl (a0 31) k9 14 f9, zVl (a0 32) k10 14 f10] H → va_D A [(h0, .inr (12, zO a0 b0 c0)), zVi (a0 39) k1 14 f1, zVi (a0 14) k2 8 f2, zVi (a0 19) k3 28 f3, zVi (a0 20) k4 28 f4, zVi (a0 21) k5 28 f5, zVl (a0 40) k6 14 f6, zVl (a0 22) k7 28 f7, zVl (a0 23) k8 28 f8, zVl (a0 31) k9 14 f9, zVl (a0 32) k10 14 f10] → va_S A s.heap H locs → lv_has ls 12 [(6, .long o_9), (4, .long o_5), (0, .ref h0), (1, .int p1)] → W p l e (headSpec wsX12_laysError ({ frames := 1, cells := 0, slots := 0, locals := 25 })).room s m ([.ref h0, .int p1] : List Value).toArray below meth c H locs 0 0 Q (F0 m 70 ls []) := by
      intro s_13 H locs ls hfn hP hD hS hl
      have hfn := zj_s ej_13 hfn
      refine lv_aload_n hx hb dX12_laysError_70 rfl (lv_at hl 2 rfl) ?_
      refine va_get (D := (dC, dI)) (ci := 12) (v := .ref (a0 40)) (C := RX12) (T := TX12) (N := 67) hx hb hts zn_X12_laysError_X12 hown hK hP 0 rfl rfl 40 (of_decide_eq_true rfl) (hts (.fieldLink RX12 135 "ShortEnoughModel" "error" "[J") zw_X12_laysError_1155) (fun _ h9 => h9) rfl dX12_laysError_71 ?_
      refine lv_iload_n hx hb dX12_laysError_74 rfl (lv_at hl 3 rfl) ?_
      refine lv_lload hx hb dX12_laysError_75 (lv_at hl 1 rfl) ?_
      refine lv_lload hx hb dX12_laysError_77 (lv_at hl 0 rfl) ?_
      refine lv_ladd hx hb dX12_laysError_79 ?_
      obtain ⟨h_14, hfn⟩ := zg_s hfn
      refine va_last hx hb hK hP hD hS 6 5 rfl rfl h_14 dX12_laysError_80 (fun H locs hP hD hS => ?_)
      have hP : va_P (dC, dI) vwCl [(h0, .inr (12, zO a0 b0 c0)), zVi (a0 39) k1 14 f1, zVi (a0 14) k2 8 f2, zVi (a0 19) k3 28 f3, zVi (a0 20) k4 28 f4, zVi (a0 21) k5 28 f5, zVl (a0 40) k6 14 (vp_updL f6 p1.toNatClampNeg (o_5 + o_9)), zVl (a0 22) k7 28 f7, zVl (a0 23) k8 28 f8, zVl (a0 31) k9 14 f9, zVl (a0 32) k10 14 f10] H := hP
      have hD := zDW hD hP rfl
      refine lv_goto (tgt := 191) hx hb dX12_laysError_81 (of_decide_eq_true rfl) ?_
      have ho := Option.some.inj hfn
      subst ho
      exact zrv hx hb hr hK hP hD hS hQ trivial hlocks dX12_laysError_191
    refine lv_icmp_eq (tgt := 70) hx hb dX12_laysError_57 (of_decide_eq_true rfl) (fun c_15 => ?_) (fun c_15 => ?_)
    · have hfn := (if_pos c_15).symm.trans hfn
      exact jp_13 () H locs ls hfn hP hD hS (lv_sub hl [0, 1, 3, 4] rfl)
    have hfn := (if_neg c_15).symm.trans hfn
    refine lv_aload_n hx hb dX12_laysError_60 rfl (lv_at hl 3 rfl) ?_
    refine va_get (D := (dC, dI)) (ci := 12) (v := .ref (a0 19)) (C := RX12) (T := TX12) (N := 67) hx hb hts zn_X12_laysError_X12 hown hK hP 0 rfl rfl 19 (of_decide_eq_true rfl) (hts (.fieldLink RX12 68 "ShortEnoughModel" "op" "[I") zw_X12_laysError_1154) (fun _ h9 => h9) rfl dX12_laysError_61 ?_
    refine lv_iload_n hx hb dX12_laysError_64 rfl (lv_at hl 4 rfl) ?_
    refine va_iald hx hb hK hP 3 2 rfl rfl h_3 dX12_laysError_65 ?_
    refine lv_iconst (v := 2) hx hb dX12_laysError_66 zci_2 ?_
    refine lv_icmp_ne (tgt := 84) hx hb dX12_laysError_67 (of_decide_eq_true rfl) (fun c_16 => ?_) (fun c_16 => ?_)
    · have hfn := (if_neg c_16).symm.trans hfn
      refine lv_aload_n hx hb dX12_laysError_84 rfl (lv_at hl 3 rfl) ?_
      refine va_get (D := (dC, dI)) (ci := 12) (v := .ref (a0 19)) (C := RX12) (T := TX12) (N := 67) hx hb hts zn_X12_laysError_X12 hown hK hP 0 rfl rfl 19 (of_decide_eq_true rfl) (hts (.fieldLink RX12 68 "ShortEnoughModel" "op" "[I") zw_X12_laysError_1154) (fun _ h9 => h9) rfl dX12_laysError_85 ?_
      refine lv_iload_n hx hb dX12_laysError_88 rfl (lv_at hl 4 rfl) ?_
      refine va_iald hx hb hK hP 3 2 rfl rfl h_3 dX12_laysError_89 ?_
      refine lv_iconst (v := 3) hx hb dX12_laysError_90 zci_3 ?_
      refine lv_icmp_ne (tgt := 178) hx hb dX12_laysError_91 (of_decide_eq_true rfl) (fun c_17 => ?_) (fun c_17 => ?_)
      · have hfn := (if_neg c_17).symm.trans hfn
        refine lv_aload_n hx hb dX12_laysError_178 rfl (lv_at hl 3 rfl) ?_
        refine va_get (D := (dC, dI)) (ci := 12) (v := .ref (a0 40)) (C := RX12) (T := TX12) (N := 67) hx hb hts zn_X12_laysError_X12 hown hK hP 0 rfl rfl 40 (of_decide_eq_true rfl) (hts (.fieldLink RX12 135 "ShortEnoughModel" "error" "[J") zw_X12_laysError_1155) (fun _ h9 => h9) rfl dX12_laysError_179 ?_
        refine lv_iload_n hx hb dX12_laysError_182 rfl (lv_at hl 4 rfl) ?_
        refine lv_lload hx hb dX12_laysError_183 (lv_at hl 1 rfl) ?_
        refine lv_lload hx hb dX12_laysError_185 (lv_at hl 0 rfl) ?_
        obtain ⟨o_18, hqo_18, hfn⟩ := zb_s hfn
        refine zcSl (rest := [.int p1, .ref (a0 40)]) (pc' := 190) (ws' := [(h0, .inr (12, zO a0 b0 c0)), zVi (a0 39) k1 14 f1, zVi (a0 14) k2 8 f2, zVi (a0 19) k3 28 f3, zVi (a0 20) k4 28 f4, zVi (a0 21) k5 28 f5, zVl (a0 40) k6 14 f6, zVl (a0 22) k7 28 f7, zVl (a0 23) k8 28 f8, zVl (a0 31) k9 14 f9, zVl (a0 32) k10 14 f10]) hP hK hD hS hA ⟨hx, hb, hml, hown, hts⟩ (zf_X12_greater l dC dI o_5 o_9 o_18 hqo_18 H.size) (va_cwS 2 hts gX12_laysError_X12_greater rfl rfl rfl zhd_X12_greater.2 ⟨Nat.le_of_ble_eq_true rfl, Nat.le_of_ble_eq_true rfl⟩) [] rfl (of_decide_eq_true rfl) [] rfl rfl hl.1 rfl (Nat.le_of_ble_eq_true rfl) dX12_laysError_187 ⟨Nat.le_of_ble_eq_true rfl, Nat.le_of_ble_eq_true rfl⟩ [] (of_decide_eq_true rfl) (of_decide_eq_true rfl) rfl rfl rfl (fun H locs hP hD hS => ?_)
        refine va_last hx hb hK hP hD hS 6 5 rfl rfl h_1 dX12_laysError_190 (fun H locs hP hD hS => ?_)
        have hP : va_P (dC, dI) vwCl [(h0, .inr (12, zO a0 b0 c0)), zVi (a0 39) k1 14 f1, zVi (a0 14) k2 8 f2, zVi (a0 19) k3 28 f3, zVi (a0 20) k4 28 f4, zVi (a0 21) k5 28 f5, zVl (a0 40) k6 14 (vp_updL f6 p1.toNatClampNeg o_18), zVl (a0 22) k7 28 f7, zVl (a0 23) k8 28 f8, zVl (a0 31) k9 14 f9, zVl (a0 32) k10 14 f10] H := hP
        have hD := zDW hD hP rfl
        have ho := Option.some.inj hfn
        subst ho
        exact zrv hx hb hr hK hP hD hS hQ trivial hlocks dX12_laysError_191
      have hfn := (if_pos c_17).symm.trans hfn
      refine lv_aload_n hx hb dX12_laysError_94 rfl (lv_at hl 3 rfl) ?_
      refine lv_iload_n hx hb dX12_laysError_95 rfl (lv_at hl 4 rfl) ?_
      refine lv_iconst (v := 0) hx hb dX12_laysError_96 zci_0 ?_
      obtain ⟨o_22, hqo_22, hfn⟩ := zb_s hfn
      refine zcVl (ci := 12) (rest := []) (pc' := 100) (ws' := [(h0, .inr (12, zO a0 b0 c0)), zVi (a0 39) k1 14 f1, zVi (a0 14) k2 8 f2, zVi (a0 19) k3 28 f3, zVi (a0 20) k4 28 f4, zVi (a0 21) k5 28 f5, zVl (a0 40) k6 14 f6, zVl (a0 22) k7 28 f7, zVl (a0 23) k8 28 f8, zVl (a0 31) k9 14 f9, zVl (a0 32) k10 14 f10]) hP hK hD hS hA ⟨hx, hb, hml, hown, hts⟩ (zf_X12_lowOf l dC dI h0 p1 0 a0 b0 c0 k4 f4 k5 f5 k9 f9 k7 f7 k8 f8 o_22 hqo_22 H.size) (cwV 2 hts gX12_laysError_X12_lowOf rfl rfl rfl zhd_X12_lowOf ⟨Nat.le_of_ble_eq_true rfl, Nat.le_of_ble_eq_true rfl⟩) [0, 4, 5, 9, 7, 8] rfl (of_decide_eq_true rfl) [3, 4, 8, 6, 7] rfl rfl rfl rfl hl.1 rfl (Nat.le_of_ble_eq_true rfl) dX12_laysError_97 ⟨Nat.le_of_ble_eq_true rfl, Nat.le_of_ble_eq_true rfl⟩ [some 0, none, none, none, some 1, some 2, none, some 4, some 5, some 3] (of_decide_eq_true rfl) (of_decide_eq_true rfl) rfl rfl rfl (fun H locs hP hD hS => ?_)
      obtain ⟨o_26, hqo_26, hfn⟩ := zb_s hfn
      refine zcSl (rest := []) (pc' := 103) (ws' := [(h0, .inr (12, zO a0 b0 c0)), zVi (a0 39) k1 14 f1, zVi (a0 14) k2 8 f2, zVi (a0 19) k3 28 f3, zVi (a0 20) k4 28 f4, zVi (a0 21) k5 28 f5, zVl (a0 40) k6 14 f6, zVl (a0 22) k7 28 f7, zVl (a0 23) k8 28 f8, zVl (a0 31) k9 14 f9, zVl (a0 32) k10 14 f10]) hP hK hD hS hA ⟨hx, hb, hml, hown, hts⟩ (zf_X12_amount l dC dI o_22 o_26 hqo_26 H.size) (va_cwS 1 hts gX12_laysError_X12_amount rfl rfl rfl zhd_X12_amount.2 ⟨Nat.le_of_ble_eq_true rfl, Nat.le_of_ble_eq_true rfl⟩) [] rfl (of_decide_eq_true rfl) [] rfl rfl hl.1 rfl (Nat.le_of_ble_eq_true rfl) dX12_laysError_100 ⟨Nat.le_of_ble_eq_true rfl, Nat.le_of_ble_eq_true rfl⟩ [] (of_decide_eq_true rfl) (of_decide_eq_true rfl) rfl rfl rfl (fun H locs hP hD hS => ?_)
      refine lv_aload_n hx hb dX12_laysError_103 rfl (lv_at hl 3 rfl) ?_
      refine lv_iload_n hx hb dX12_laysError_104 rfl (lv_at hl 4 rfl) ?_
      refine lv_iconst (v := 0) hx hb dX12_laysError_105 zci_0 ?_
      obtain ⟨o_30, hqo_30, hfn⟩ := zb_s hfn
      refine zcVl (ci := 12) (rest := [.long o_26]) (pc' := 109) (ws' := [(h0, .inr (12, zO a0 b0 c0)), zVi (a0 39) k1 14 f1, zVi (a0 14) k2 8 f2, zVi (a0 19) k3 28 f3, zVi (a0 20) k4 28 f4, zVi (a0 21) k5 28 f5, zVl (a0 40) k6 14 f6, zVl (a0 22) k7 28 f7, zVl (a0 23) k8 28 f8, zVl (a0 31) k9 14 f9, zVl (a0 32) k10 14 f10]) hP hK hD hS hA ⟨hx, hb, hml, hown, hts⟩ (zf_X12_highOf l dC dI h0 p1 0 a0 b0 c0 k4 f4 k5 f5 k10 f10 k7 f7 k8 f8 o_30 hqo_30 H.size) (cwV 2 hts gX12_laysError_X12_highOf rfl rfl rfl zhd_X12_highOf ⟨Nat.le_of_ble_eq_true rfl, Nat.le_of_ble_eq_true rfl⟩) [0, 4, 5, 10, 7, 8] rfl (of_decide_eq_true rfl) [3, 4, 9, 6, 7] rfl rfl rfl rfl hl.1 rfl (Nat.le_of_ble_eq_true rfl) dX12_laysError_106 ⟨Nat.le_of_ble_eq_true rfl, Nat.le_of_ble_eq_true rfl⟩ [some 0, none, none, none, some 1, some 2, none, some 4, some 5, none, some 3] (of_decide_eq_true rfl) (of_decide_eq_true rfl) rfl rfl rfl (fun H locs hP hD hS => ?_)
      obtain ⟨o_34, hqo_34, hfn⟩ := zb_s hfn
      refine zcSl (rest := [.long o_26]) (pc' := 112) (ws' := [(h0, .inr (12, zO a0 b0 c0)), zVi (a0 39) k1 14 f1, zVi (a0 14) k2 8 f2, zVi (a0 19) k3 28 f3, zVi (a0 20) k4 28 f4, zVi (a0 21) k5 28 f5, zVl (a0 40) k6 14 f6, zVl (a0 22) k7 28 f7, zVl (a0 23) k8 28 f8, zVl (a0 31) k9 14 f9, zVl (a0 32) k10 14 f10]) hP hK hD hS hA ⟨hx, hb, hml, hown, hts⟩ (zf_X12_amount l dC dI o_30 o_34 hqo_34 H.size) (va_cwS 1 hts gX12_laysError_X12_amount rfl rfl rfl zhd_X12_amount.2 ⟨Nat.le_of_ble_eq_true rfl, Nat.le_of_ble_eq_true rfl⟩) [] rfl (of_decide_eq_true rfl) [] rfl rfl hl.1 rfl (Nat.le_of_ble_eq_true rfl) dX12_laysError_109 ⟨Nat.le_of_ble_eq_true rfl, Nat.le_of_ble_eq_true rfl⟩ [] (of_decide_eq_true rfl) (of_decide_eq_true rfl) rfl rfl rfl (fun H locs hP hD hS => ?_)
      obtain ⟨o_38, hqo_38, hfn⟩ := zb_s hfn
      refine zcSl (rest := []) (pc' := 115) (ws' := [(h0, .inr (12, zO a0 b0 c0)), zVi (a0 39) k1 14 f1, zVi (a0 14) k2 8 f2, zVi (a0 19) k3 28 f3, zVi (a0 20) k4 28 f4, zVi (a0 21) k5 28 f5, zVl (a0 40) k6 14 f6, zVl (a0 22) k7 28 f7, zVl (a0 23) k8 28 f8, zVl (a0 31) k9 14 f9, zVl (a0 32) k10 14 f10]) hP hK hD hS hA ⟨hx, hb, hml, hown, hts⟩ (zf_X12_greater l dC dI o_26 o_34 o_38 hqo_38 H.size) (va_cwS 2 hts gX12_laysError_X12_greater rfl rfl rfl zhd_X12_greater.2 ⟨Nat.le_of_ble_eq_true rfl, Nat.le_of_ble_eq_true rfl⟩) [] rfl (of_decide_eq_true rfl) [] rfl rfl hl.1 rfl (Nat.le_of_ble_eq_true rfl) dX12_laysError_112 ⟨Nat.le_of_ble_eq_true rfl, Nat.le_of_ble_eq_true rfl⟩ [] (of_decide_eq_true rfl) (of_decide_eq_true rfl) rfl rfl rfl (fun H locs hP hD hS => ?_)
      refine lv_lstore (lv' := [(8, .long o_38), (6, .long o_9), (4, .long o_5), (2, .long ((f2 (f1 p1.toNatClampNeg).toNatClampNeg).toInt64 / (2 : Int64))), (0, .ref h0), (1, .int p1)]) hx hb dX12_laysError_115 hl (of_decide_eq_true rfl) rfl (fun ls hl => ?_)
      refine lv_aload_n hx hb dX12_laysError_117 rfl (lv_at hl 4 rfl) ?_
      refine lv_iload_n hx hb dX12_laysError_118 rfl (lv_at hl 5 rfl) ?_
      refine lv_iconst (v := 1) hx hb dX12_laysError_119 zci_1 ?_
      obtain ⟨o_42, hqo_42, hfn⟩ := zb_s hfn
      refine zcVl (ci := 12) (rest := []) (pc' := 123) (ws' := [(h0, .inr (12, zO a0 b0 c0)), zVi (a0 39) k1 14 f1, zVi (a0 14) k2 8 f2, zVi (a0 19) k3 28 f3, zVi (a0 20) k4 28 f4, zVi (a0 21) k5 28 f5, zVl (a0 40) k6 14 f6, zVl (a0 22) k7 28 f7, zVl (a0 23) k8 28 f8, zVl (a0 31) k9 14 f9, zVl (a0 32) k10 14 f10]) hP hK hD hS hA ⟨hx, hb, hml, hown, hts⟩ (zf_X12_lowOf l dC dI h0 p1 1 a0 b0 c0 k4 f4 k5 f5 k9 f9 k7 f7 k8 f8 o_42 hqo_42 H.size) (cwV 2 hts gX12_laysError_X12_lowOf rfl rfl rfl zhd_X12_lowOf ⟨Nat.le_of_ble_eq_true rfl, Nat.le_of_ble_eq_true rfl⟩) [0, 4, 5, 9, 7, 8] rfl (of_decide_eq_true rfl) [3, 4, 8, 6, 7] rfl rfl rfl rfl hl.1 rfl (Nat.le_of_ble_eq_true rfl) dX12_laysError_120 ⟨Nat.le_of_ble_eq_true rfl, Nat.le_of_ble_eq_true rfl⟩ [some 0, none, none, none, some 1, some 2, none, some 4, some 5, some 3] (of_decide_eq_true rfl) (of_decide_eq_true rfl) rfl rfl rfl (fun H locs hP hD hS => ?_)
      obtain ⟨o_46, hqo_46, hfn⟩ := zb_s hfn
      refine zcSl (rest := []) (pc' := 126) (ws' := [(h0, .inr (12, zO a0 b0 c0)), zVi (a0 39) k1 14 f1, zVi (a0 14) k2 8 f2, zVi (a0 19) k3 28 f3, zVi (a0 20) k4 28 f4, zVi (a0 21) k5 28 f5, zVl (a0 40) k6 14 f6, zVl (a0 22) k7 28 f7, zVl (a0 23) k8 28 f8, zVl (a0 31) k9 14 f9, zVl (a0 32) k10 14 f10]) hP hK hD hS hA ⟨hx, hb, hml, hown, hts⟩ (zf_X12_amount l dC dI o_42 o_46 hqo_46 H.size) (va_cwS 1 hts gX12_laysError_X12_amount rfl rfl rfl zhd_X12_amount.2 ⟨Nat.le_of_ble_eq_true rfl, Nat.le_of_ble_eq_true rfl⟩) [] rfl (of_decide_eq_true rfl) [] rfl rfl hl.1 rfl (Nat.le_of_ble_eq_true rfl) dX12_laysError_123 ⟨Nat.le_of_ble_eq_true rfl, Nat.le_of_ble_eq_true rfl⟩ [] (of_decide_eq_true rfl) (of_decide_eq_true rfl) rfl rfl rfl (fun H locs hP hD hS => ?_)
      refine lv_aload_n hx hb dX12_laysError_126 rfl (lv_at hl 4 rfl) ?_
      refine lv_iload_n hx hb dX12_laysError_127 rfl (lv_at hl 5 rfl) ?_
      refine lv_iconst (v := 1) hx hb dX12_laysError_128 zci_1 ?_
      obtain ⟨o_50, hqo_50, hfn⟩ := zb_s hfn
      refine zcVl (ci := 12) (rest := [.long o_46]) (pc' := 132) (ws' := [(h0, .inr (12, zO a0 b0 c0)), zVi (a0 39) k1 14 f1, zVi (a0 14) k2 8 f2, zVi (a0 19) k3 28 f3, zVi (a0 20) k4 28 f4, zVi (a0 21) k5 28 f5, zVl (a0 40) k6 14 f6, zVl (a0 22) k7 28 f7, zVl (a0 23) k8 28 f8, zVl (a0 31) k9 14 f9, zVl (a0 32) k10 14 f10]) hP hK hD hS hA ⟨hx, hb, hml, hown, hts⟩ (zf_X12_highOf l dC dI h0 p1 1 a0 b0 c0 k4 f4 k5 f5 k10 f10 k7 f7 k8 f8 o_50 hqo_50 H.size) (cwV 2 hts gX12_laysError_X12_highOf rfl rfl rfl zhd_X12_highOf ⟨Nat.le_of_ble_eq_true rfl, Nat.le_of_ble_eq_true rfl⟩) [0, 4, 5, 10, 7, 8] rfl (of_decide_eq_true rfl) [3, 4, 9, 6, 7] rfl rfl rfl rfl hl.1 rfl (Nat.le_of_ble_eq_true rfl) dX12_laysError_129 ⟨Nat.le_of_ble_eq_true rfl, Nat.le_of_ble_eq_true rfl⟩ [some 0, none, none, none, some 1, some 2, none, some 4, some 5, none, some 3] (of_decide_eq_true rfl) (of_decide_eq_true rfl) rfl rfl rfl (fun H locs hP hD hS => ?_)
      obtain ⟨o_54, hqo_54, hfn⟩ := zb_s hfn
      refine zcSl (rest := [.long o_46]) (pc' := 135) (ws' := [(h0, .inr (12, zO a0 b0 c0)), zVi (a0 39) k1 14 f1, zVi (a0 14) k2 8 f2, zVi (a0 19) k3 28 f3, zVi (a0 20) k4 28 f4, zVi (a0 21) k5 28 f5, zVl (a0 40) k6 14 f6, zVl (a0 22) k7 28 f7, zVl (a0 23) k8 28 f8, zVl (a0 31) k9 14 f9, zVl (a0 32) k10 14 f10]) hP hK hD hS hA ⟨hx, hb, hml, hown, hts⟩ (zf_X12_amount l dC dI o_50 o_54 hqo_54 H.size) (va_cwS 1 hts gX12_laysError_X12_amount rfl rfl rfl zhd_X12_amount.2 ⟨Nat.le_of_ble_eq_true rfl, Nat.le_of_ble_eq_true rfl⟩) [] rfl (of_decide_eq_true rfl) [] rfl rfl hl.1 rfl (Nat.le_of_ble_eq_true rfl) dX12_laysError_132 ⟨Nat.le_of_ble_eq_true rfl, Nat.le_of_ble_eq_true rfl⟩ [] (of_decide_eq_true rfl) (of_decide_eq_true rfl) rfl rfl rfl (fun H locs hP hD hS => ?_)
      obtain ⟨o_58, hqo_58, hfn⟩ := zb_s hfn
      refine zcSl (rest := []) (pc' := 138) (ws' := [(h0, .inr (12, zO a0 b0 c0)), zVi (a0 39) k1 14 f1, zVi (a0 14) k2 8 f2, zVi (a0 19) k3 28 f3, zVi (a0 20) k4 28 f4, zVi (a0 21) k5 28 f5, zVl (a0 40) k6 14 f6, zVl (a0 22) k7 28 f7, zVl (a0 23) k8 28 f8, zVl (a0 31) k9 14 f9, zVl (a0 32) k10 14 f10]) hP hK hD hS hA ⟨hx, hb, hml, hown, hts⟩ (zf_X12_greater l dC dI o_46 o_54 o_58 hqo_58 H.size) (va_cwS 2 hts gX12_laysError_X12_greater rfl rfl rfl zhd_X12_greater.2 ⟨Nat.le_of_ble_eq_true rfl, Nat.le_of_ble_eq_true rfl⟩) [] rfl (of_decide_eq_true rfl) [] rfl rfl hl.1 rfl (Nat.le_of_ble_eq_true rfl) dX12_laysError_135 ⟨Nat.le_of_ble_eq_true rfl, Nat.le_of_ble_eq_true rfl⟩ [] (of_decide_eq_true rfl) (of_decide_eq_true rfl) rfl rfl rfl (fun H locs hP hD hS => ?_)
      refine lv_lstore (lv' := [(10, .long o_58), (8, .long o_38), (6, .long o_9), (4, .long o_5), (2, .long ((f2 (f1 p1.toNatClampNeg).toNatClampNeg).toInt64 / (2 : Int64))), (0, .ref h0), (1, .int p1)]) hx hb dX12_laysError_138 hl (of_decide_eq_true rfl) rfl (fun ls hl => ?_)
      refine lv_aload_n hx hb dX12_laysError_140 rfl (lv_at hl 5 rfl) ?_
      refine va_get (D := (dC, dI)) (ci := 12) (v := .ref (a0 40)) (C := RX12) (T := TX12) (N := 67) hx hb hts zn_X12_laysError_X12 hown hK hP 0 rfl rfl 40 (of_decide_eq_true rfl) (hts (.fieldLink RX12 135 "ShortEnoughModel" "error" "[J") zw_X12_laysError_1155) (fun _ h9 => h9) rfl dX12_laysError_141 ?_
      refine lv_iload_n hx hb dX12_laysError_144 rfl (lv_at hl 6 rfl) ?_
      refine lv_lload hx hb dX12_laysError_145 (lv_at hl 1 rfl) ?_
      refine lv_lload hx hb dX12_laysError_147 (lv_at hl 2 rfl) ?_
      refine lv_lmul hx hb dX12_laysError_149 ?_
      refine lv_lload hx hb dX12_laysError_150 (lv_at hl 0 rfl) ?_
      refine lv_lload hx hb dX12_laysError_152 (lv_at hl 3 rfl) ?_
      refine lv_lmul hx hb dX12_laysError_154 ?_
      refine lv_ladd hx hb dX12_laysError_155 ?_
      refine lv_lload hx hb dX12_laysError_156 (lv_at hl 3 rfl) ?_
      refine lv_lload hx hb dX12_laysError_158 (lv_at hl 2 rfl) ?_
      refine lv_lmul hx hb dX12_laysError_160 ?_
      refine lv_ladd hx hb dX12_laysError_161 ?_
      refine lv_lneg hx hb dX12_laysError_162 ?_
      refine lv_ldc2 (v := 1000) hx hb hown (hts (.constantLong RX12 388 (1000)) zw_X12_laysError_1156) dX12_laysError_163 ?_
      obtain ⟨o_62, hqo_62, hfn⟩ := zb_s hfn
      refine zcSl (rest := [.int p1, .ref (a0 40)]) (pc' := 169) (ws' := [(h0, .inr (12, zO a0 b0 c0)), zVi (a0 39) k1 14 f1, zVi (a0 14) k2 8 f2, zVi (a0 19) k3 28 f3, zVi (a0 20) k4 28 f4, zVi (a0 21) k5 28 f5, zVl (a0 40) k6 14 f6, zVl (a0 22) k7 28 f7, zVl (a0 23) k8 28 f8, zVl (a0 31) k9 14 f9, zVl (a0 32) k10 14 f10]) hP hK hD hS hA ⟨hx, hb, hml, hown, hts⟩ (zf_X12_floor l dC dI (-(((o_38 * o_9) + (o_58 * o_5)) + (o_5 * o_9))) (1000 : Int64) o_62 hqo_62 H.size) (va_cwS 2 hts gX12_laysError_X12_floor rfl rfl rfl zhd_X12_floor.2 ⟨Nat.le_of_ble_eq_true rfl, Nat.le_of_ble_eq_true rfl⟩) [] rfl (of_decide_eq_true rfl) [] rfl rfl hl.1 rfl (Nat.le_of_ble_eq_true rfl) dX12_laysError_166 ⟨Nat.le_of_ble_eq_true rfl, Nat.le_of_ble_eq_true rfl⟩ [] (of_decide_eq_true rfl) (of_decide_eq_true rfl) rfl rfl rfl (fun H locs hP hD hS => ?_)
      refine lv_lneg hx hb dX12_laysError_169 ?_
      refine lv_lload_n hx hb dX12_laysError_170 rfl (lv_at hl 4 rfl) ?_
      refine lv_ladd hx hb dX12_laysError_171 ?_
      refine lv_topl (fun x_66 ex_66 => ?_)
      have hfn := zn_s hfn ex_66
      refine lv_lconst (v := 1) hx hb dX12_laysError_172 (by decide +kernel) ?_
      refine lv_ladd hx hb dX12_laysError_173 ?_
      refine va_last hx hb hK hP hD hS 6 5 rfl rfl h_1 dX12_laysError_174 (fun H locs hP hD hS => ?_)
      have hP : va_P (dC, dI) vwCl [(h0, .inr (12, zO a0 b0 c0)), zVi (a0 39) k1 14 f1, zVi (a0 14) k2 8 f2, zVi (a0 19) k3 28 f3, zVi (a0 20) k4 28 f4, zVi (a0 21) k5 28 f5, zVl (a0 40) k6 14 (vp_updL f6 p1.toNatClampNeg (x_66 + (1 : Int64))), zVl (a0 22) k7 28 f7, zVl (a0 23) k8 28 f8, zVl (a0 31) k9 14 f9, zVl (a0 32) k10 14 f10] H := hP
      have hD := zDW hD hP rfl
      refine lv_goto (tgt := 191) hx hb dX12_laysError_175 (of_decide_eq_true rfl) ?_
      have ho := Option.some.inj hfn
      subst ho
      exact zrv hx hb hr hK hP hD hS hQ trivial hlocks dX12_laysError_191
    have hfn := (if_pos c_16).symm.trans hfn
    exact jp_13 () H locs ls hfn hP hD hS (lv_sub hl [0, 1, 3, 4] rfl)
  have hfn := (if_pos c_4).symm.trans hfn
  refine lv_aload_n hx hb dX12_laysError_26 rfl (lv_at hl 1 rfl) ?_
  refine va_get (D := (dC, dI)) (ci := 12) (v := .ref (a0 40)) (C := RX12) (T := TX12) (N := 67) hx hb hts zn_X12_laysError_X12 hown hK hP 0 rfl rfl 40 (of_decide_eq_true rfl) (hts (.fieldLink RX12 135 "ShortEnoughModel" "error" "[J") zw_X12_laysError_1155) (fun _ h9 => h9) rfl dX12_laysError_27 ?_
  refine lv_iload_n hx hb dX12_laysError_30 rfl (lv_at hl 2 rfl) ?_
  refine lv_lload_n hx hb dX12_laysError_31 rfl (lv_at hl 0 rfl) ?_
  refine va_last hx hb hK hP hD hS 6 5 rfl rfl h_1 dX12_laysError_32 (fun H locs hP hD hS => ?_)
  obtain ⟨g_67, eg_67⟩ : ∃ g : Nat → Int64, g = (vp_updL f6 p1.toNatClampNeg ((f2 (f1 p1.toNatClampNeg).toNatClampNeg).toInt64 / (2 : Int64))) := ⟨_, rfl⟩
  have hfn := zn_s hfn eg_67
  have hP : va_P (dC, dI) vwCl [(h0, .inr (12, zO a0 b0 c0)), zVi (a0 39) k1 14 f1, zVi (a0 14) k2 8 f2, zVi (a0 19) k3 28 f3, zVi (a0 20) k4 28 f4, zVi (a0 21) k5 28 f5, zVl (a0 40) k6 14 g_67, zVl (a0 22) k7 28 f7, zVl (a0 23) k8 28 f8, zVl (a0 31) k9 14 f9, zVl (a0 32) k10 14 f10] H := by rw [eg_67]; exact hP
  have hD : va_D A [(h0, .inr (12, zO a0 b0 c0)), zVi (a0 39) k1 14 f1, zVi (a0 14) k2 8 f2, zVi (a0 19) k3 28 f3, zVi (a0 20) k4 28 f4, zVi (a0 21) k5 28 f5, zVl (a0 40) k6 14 g_67, zVl (a0 22) k7 28 f7, zVl (a0 23) k8 28 f8, zVl (a0 31) k9 14 f9, zVl (a0 32) k10 14 f10] := by rw [eg_67]; exact hD
  have ho := Option.some.inj hfn
  subst ho
  exact zrv hx hb hr hK hP hD hS hQ trivial hlocks dX12_laysError_33
theorem zn_X12_passes_X12 : ∀ w ∈ wsX120, w ∈ wsX12_passes := fun _ h => List.mem_cons_of_mem _ (List.mem_append_right _ h)
theorem zw_X12_passes_1158 : Cond.fieldLink RX12 138 "ShortEnoughModel" "failsAt" "I" ∈ wsX12_passes := List.mem_of_getElem? (i := 1) (by decide +kernel)
theorem zw_X12_passes_1159 : Cond.fieldLink RX12 141 "ShortEnoughModel" "failsWhy" "I" ∈ wsX12_passes := List.mem_of_getElem? (i := 2) (by decide +kernel)
theorem zw_X12_passes_1160 : Cond.fieldLink RX12 62 "ShortEnoughModel" "numbers" "[I" ∈ wsX12_passes := List.mem_of_getElem? (i := 3) (by decide +kernel)
theorem zw_X12_passes_1161 : Cond.fieldLink RX12 135 "ShortEnoughModel" "error" "[J" ∈ wsX12_passes := List.mem_of_getElem? (i := 4) (by decide +kernel)
theorem zw_X12_passes_1162 : Cond.fieldLink RX12 56 "ShortEnoughModel" "most" "[I" ∈ wsX12_passes := List.mem_of_getElem? (i := 5) (by decide +kernel)
theorem zw_X12_passes_1163 : Cond.fieldLink RX12 132 "ShortEnoughModel" "tried" "[I" ∈ wsX12_passes := List.mem_of_getElem? (i := 6) (by decide +kernel)
theorem zw_X12_passes_1164 : Cond.fieldLink RX12 90 "ShortEnoughModel" "within" "[I" ∈ wsX12_passes := List.mem_of_getElem? (i := 7) (by decide +kernel)
set_option maxHeartbeats 4000000 in
set_option maxRecDepth 100000 in
theorem zf_X12_passes (l : Launch) (dC : Nat → ClassId) (dI : Nat → Nat → Nat) (h0 : Nat) (a0 : Nat → Nat) (b0 : Nat → Int32) (c0 : Nat → Int64) (k1 : Nat) (f1 : Nat → Int32) (k2 : Nat) (f2 : Nat → Int32) (k3 : Nat) (f3 : Nat → Int32) (k4 : Nat) (f4 : Nat → Int32) (k5 : Nat) (f5 : Nat → Int64) (k6 : Nat) (f6 : Nat → Int64) (k7 : Nat) (f7 : Nat → Int64) (k8 : Nat) (f8 : Nat → Int64) (k9 : Nat) (f9 : Nat → Int32) (k10 : Nat) (f10 : Nat → Int32) (k11 : Nat) (f11 : Nat → Int64) (k12 : Nat) (f12 : Nat → Int32) (k13 : Nat) (f13 : Nat → Int32) (o : Int32 × Int32 × Int32 × (Nat → Int64) × (Nat → Int64) × (Nat → Int64)) (hfn : fn_X12_passes (b0 33) (c0 34) f1 f2 f3 f4 f5 f6 f7 f8 f9 f10 f11 f12 f13 = some o) (sz : Nat) : zMi l yX12_passes wsX12_passes ({ frames := 4, cells := 0, slots := 0, locals := 113 }) (dC, dI) vwCl [.ref h0] [(h0, .inr (12, zO a0 b0 c0)), zVi (a0 17) k1 2 f1, zVi (a0 19) k2 28 f2, zVi (a0 20) k3 28 f3, zVi (a0 21) k4 28 f4, zVl (a0 31) k5 14 f5, zVl (a0 22) k6 28 f6, zVl (a0 23) k7 28 f7, zVl (a0 32) k8 14 f8, zVi (a0 39) k9 14 f9, zVi (a0 14) k10 8 f10, zVl (a0 40) k11 14 f11, zVi (a0 15) k12 8 f12, zVi (a0 26) k13 28 f13] [(k1, .int), (k2, .int), (k3, .int), (k4, .int), (k5, .long), (k6, .long), (k7, .long), (k8, .long), (k9, .int), (k10, .int), (k11, .long), (k12, .int), (k13, .int)] (fun r _ => r = o.1 ∧ narrow .boolean (.int o.1) = .int o.1) [(h0, .inr (12, zO a0 (zI (zI b0 41 o.2.1) 42 o.2.2.1) c0)), zVi (a0 17) k1 2 f1, zVi (a0 19) k2 28 f2, zVi (a0 20) k3 28 f3, zVi (a0 21) k4 28 f4, zVl (a0 31) k5 14 o.2.2.2.1, zVl (a0 22) k6 28 f6, zVl (a0 23) k7 28 f7, zVl (a0 32) k8 14 o.2.2.2.2.1, zVi (a0 39) k9 14 f9, zVi (a0 14) k10 8 f10, zVl (a0 40) k11 14 o.2.2.2.2.2, zVi (a0 15) k12 8 f12, zVi (a0 26) k13 28 f13] [(k1, .int), (k2, .int), (k3, .int), (k4, .int), (k5, .long), (k6, .long), (k7, .long), (k8, .long), (k9, .int), (k10, .int), (k11, .long), (k12, .int), (k13, .int)] sz := by
  refine zgoi (cc := cX12_passes) (maxL := 2) (ret := (some .boolean)) (C0 := RX12) (lv0 := [(0, .ref h0)]) zpl_X12 rfl rfl rfl (Nat.le_of_ble_eq_true rfl) ?_
  intro p e s m below meth c A ls Q hx hb hr hts hown hlocks hml hP hK hD hA hS hl hQ
  unfold fn_X12_passes at hfn
  refine lv_aload_n hx hb dX12_passes_0 rfl (lv_at hl 0 rfl) ?_
  refine lv_bipush (v := (-2)) hx hb dX12_passes_1 zcb_m2 ?_
  refine va_put (D := (dC, dI)) (ci := 12) (v := .int (-2)) (ty := .int) (C := RX12) (T := TX12) (N := 67) hx hb hts zn_X12_passes_X12 tyX12 tyX12_ok nmX12 hown hK hP hD hS 0 rfl rfl 41 (of_decide_eq_true rfl) (hts (.fieldLink RX12 138 "ShortEnoughModel" "failsAt" "I") zw_X12_passes_1158) (fun _ h9 => h9) rfl (tyX12_ok 41 (of_decide_eq_true rfl)) rfl rfl (Nat.le_of_ble_eq_true rfl) dX12_passes_3 (fun H locs hP hD hS => ?_)
  have hP : va_P (dC, dI) vwCl [(h0, .inr (12, zO a0 (zI b0 41 (-2)) c0)), zVi (a0 17) k1 2 f1, zVi (a0 19) k2 28 f2, zVi (a0 20) k3 28 f3, zVi (a0 21) k4 28 f4, zVl (a0 31) k5 14 f5, zVl (a0 22) k6 28 f6, zVl (a0 23) k7 28 f7, zVl (a0 32) k8 14 f8, zVi (a0 39) k9 14 f9, zVi (a0 14) k10 8 f10, zVl (a0 40) k11 14 f11, zVi (a0 15) k12 8 f12, zVi (a0 26) k13 28 f13] H := hP
  have hD := zDW hD hP rfl
  refine lv_aload_n hx hb dX12_passes_6 rfl (lv_at hl 0 rfl) ?_
  refine lv_iconst (v := 0) hx hb dX12_passes_7 zci_0 ?_
  refine va_put (D := (dC, dI)) (ci := 12) (v := .int 0) (ty := .int) (C := RX12) (T := TX12) (N := 67) hx hb hts zn_X12_passes_X12 tyX12 tyX12_ok nmX12 hown hK hP hD hS 0 rfl rfl 42 (of_decide_eq_true rfl) (hts (.fieldLink RX12 141 "ShortEnoughModel" "failsWhy" "I") zw_X12_passes_1159) (fun _ h9 => h9) rfl (tyX12_ok 42 (of_decide_eq_true rfl)) rfl rfl (Nat.le_of_ble_eq_true rfl) dX12_passes_8 (fun H locs hP hD hS => ?_)
  have hP : va_P (dC, dI) vwCl [(h0, .inr (12, zO a0 (zI (zI b0 41 (-2)) 42 0) c0)), zVi (a0 17) k1 2 f1, zVi (a0 19) k2 28 f2, zVi (a0 20) k3 28 f3, zVi (a0 21) k4 28 f4, zVl (a0 31) k5 14 f5, zVl (a0 22) k6 28 f6, zVl (a0 23) k7 28 f7, zVl (a0 32) k8 14 f8, zVi (a0 39) k9 14 f9, zVi (a0 14) k10 8 f10, zVl (a0 40) k11 14 f11, zVi (a0 15) k12 8 f12, zVi (a0 26) k13 28 f13] H := hP
  have hD := zDW hD hP rfl
  refine lv_iconst (v := 0) hx hb dX12_passes_11 zci_0 ?_
  refine lv_istore_n (lv' := [(1, .int 0), (0, .ref h0)]) hx hb dX12_passes_12 rfl hl (of_decide_eq_true rfl) rfl (fun ls hl => ?_)
  obtain ⟨bd_1, ebd_1, hfn⟩ := zl_g hfn
  have lp_1 : ∀ (n : Nat) (s_1 : Int32 × Int32 × Int32 × (Nat → Int64) × (Nat → Int64) × (Nat → Int64)) (H : Heap) (locs : List Loc) (ls : Array Slot), zl bd_1 n s_1 = some o → va_P (dC, dI) vwCl [(h0, .inr (12, zO a0 (zI (zI b0 41 s_1.2.1) 42 s_1.2.2.1) c0)), zVi (a0 17) k1 2 f1, zVi (a0 19) k2 28 f2, zVi (a0 20) k3 28 f3, zVi (a0 21) k4 28 f4, zVl (a0 31) k5 14 s_1.2.2.2.1, zVl (a0 22) k6 28 f6, zVl (a0 23) k7 28 f7, zVl (a0 32) k8 14 s_1.2.2.2.2.1, zVi (a0 39) k9 14 f9, zVi (a0 14) k10 8 f10, zVl (a0 40) k11 14 s_1.2.2.2.2.2, zVi (a0 15) k12 8 f12, zVi (a0 26) k13 28 f13] H → va_D A [(h0, .inr (12, zO a0 (zI (zI b0 41 s_1.2.1) 42 s_1.2.2.1) c0)), zVi (a0 17) k1 2 f1, zVi (a0 19) k2 28 f2, zVi (a0 20) k3 28 f3, zVi (a0 21) k4 28 f4, zVl (a0 31) k5 14 s_1.2.2.2.1, zVl (a0 22) k6 28 f6, zVl (a0 23) k7 28 f7, zVl (a0 32) k8 14 s_1.2.2.2.2.1, zVi (a0 39) k9 14 f9, zVi (a0 14) k10 8 f10, zVl (a0 40) k11 14 s_1.2.2.2.2.2, zVi (a0 15) k12 8 f12, zVi (a0 26) k13 28 f13] → va_S A s.heap H locs → lv_has ls 2 [(1, .int s_1.1), (0, .ref h0)] → W p l e (headSpec wsX12_passes ({ frames := 4, cells := 0, slots := 0, locals := 113 })).room s m ([.ref h0] : List Value).toArray below meth c H locs 0 0 Q (F0 m 13 ls []) := by
    intro n
    induction n with
    | zero => exact fun _ _ _ _ hfn => (zl_0 hfn).elim
    | succ n ih_1 =>
      intro s_1 H locs ls hfn hP hD hS hl
      have hfn := zl_s ebd_1 hfn
      refine lv_iload_n hx hb dX12_passes_13 rfl (lv_at hl 0 rfl) ?_
      refine lv_aload_n hx hb dX12_passes_14 rfl (lv_at hl 1 rfl) ?_
      refine va_get (D := (dC, dI)) (ci := 12) (v := .ref (a0 17)) (C := RX12) (T := TX12) (N := 67) hx hb hts zn_X12_passes_X12 hown hK hP 0 rfl rfl 17 (of_decide_eq_true rfl) (hts (.fieldLink RX12 62 "ShortEnoughModel" "numbers" "[I") zw_X12_passes_1160) (fun _ h9 => h9) rfl dX12_passes_15 ?_
      refine lv_iconst (v := 0) hx hb dX12_passes_18 zci_0 ?_
      refine va_iald hx hb hK hP 1 0 rfl rfl (zv_in (by decide +kernel)) dX12_passes_19 ?_
      refine lv_icmp_ge (tgt := 126) hx hb dX12_passes_20 (of_decide_eq_true rfl) (fun c_2 => ?_) (fun c_2 => ?_)
      · have hfn := (if_pos c_2).symm.trans hfn
        refine lv_aload_n hx hb dX12_passes_126 rfl (lv_at hl 1 rfl) ?_
        refine va_get (D := (dC, dI)) (ci := 12) (v := .int s_1.2.2.1) (C := RX12) (T := TX12) (N := 67) hx hb hts zn_X12_passes_X12 hown hK hP 0 rfl rfl 42 (of_decide_eq_true rfl) (hts (.fieldLink RX12 141 "ShortEnoughModel" "failsWhy" "I") zw_X12_passes_1159) (fun _ h9 => h9) rfl dX12_passes_127 ?_
        refine lv_if_ne (tgt := 137) hx hb dX12_passes_130 (of_decide_eq_true rfl) (fun c_3 => ?_) (fun c_3 => ?_)
        · have hfn := (if_neg c_3).symm.trans hfn
          refine lv_iconst (v := 0) hx hb dX12_passes_137 zci_0 ?_
          have ho := Option.some.inj hfn
          subst ho
          exact zrz hx hb hr rfl hK hP hD hS hQ ⟨rfl, zB0⟩ hlocks dX12_passes_138
        have hfn := (if_pos c_3).symm.trans hfn
        refine lv_iconst (v := 1) hx hb dX12_passes_133 zci_1 ?_
        refine lv_goto (tgt := 138) hx hb dX12_passes_134 (of_decide_eq_true rfl) ?_
        have ho := Option.some.inj hfn
        subst ho
        exact zrz hx hb hr rfl hK hP hD hS hQ ⟨rfl, zB1⟩ hlocks dX12_passes_138
      have hfn := (if_neg c_2).symm.trans hfn
      refine lv_aload_n hx hb dX12_passes_23 rfl (lv_at hl 1 rfl) ?_
      refine va_get (D := (dC, dI)) (ci := 12) (v := .int s_1.2.2.1) (C := RX12) (T := TX12) (N := 67) hx hb hts zn_X12_passes_X12 hown hK hP 0 rfl rfl 42 (of_decide_eq_true rfl) (hts (.fieldLink RX12 141 "ShortEnoughModel" "failsWhy" "I") zw_X12_passes_1159) (fun _ h9 => h9) rfl dX12_passes_24 ?_
      refine lv_if_ne (tgt := 126) hx hb dX12_passes_27 (of_decide_eq_true rfl) (fun c_4 => ?_) (fun c_4 => ?_)
      · have hfn := (if_neg c_4).symm.trans hfn
        refine lv_aload_n hx hb dX12_passes_126 rfl (lv_at hl 1 rfl) ?_
        refine va_get (D := (dC, dI)) (ci := 12) (v := .int s_1.2.2.1) (C := RX12) (T := TX12) (N := 67) hx hb hts zn_X12_passes_X12 hown hK hP 0 rfl rfl 42 (of_decide_eq_true rfl) (hts (.fieldLink RX12 141 "ShortEnoughModel" "failsWhy" "I") zw_X12_passes_1159) (fun _ h9 => h9) rfl dX12_passes_127 ?_
        refine lv_if_ne (tgt := 137) hx hb dX12_passes_130 (of_decide_eq_true rfl) (fun c_5 => ?_) (fun c_5 => ?_)
        · have hfn := (if_neg c_5).symm.trans hfn
          refine lv_iconst (v := 0) hx hb dX12_passes_137 zci_0 ?_
          have ho := Option.some.inj hfn
          subst ho
          exact zrz hx hb hr rfl hK hP hD hS hQ ⟨rfl, zB0⟩ hlocks dX12_passes_138
        have hfn := (if_pos c_5).symm.trans hfn
        refine lv_iconst (v := 1) hx hb dX12_passes_133 zci_1 ?_
        refine lv_goto (tgt := 138) hx hb dX12_passes_134 (of_decide_eq_true rfl) ?_
        have ho := Option.some.inj hfn
        subst ho
        exact zrz hx hb hr rfl hK hP hD hS hQ ⟨rfl, zB1⟩ hlocks dX12_passes_138
      have hfn := (if_pos c_4).symm.trans hfn
      refine lv_aload_n hx hb dX12_passes_30 rfl (lv_at hl 1 rfl) ?_
      refine lv_iload_n hx hb dX12_passes_31 rfl (lv_at hl 0 rfl) ?_
      obtain ⟨o_6, hqo_6, hfn⟩ := zb_s hfn
      refine zcVv (ci := 12) (rest := []) (pc' := 35) (ws' := [(h0, .inr (12, zO a0 (zI (zI b0 41 s_1.2.1) 42 s_1.2.2.1) c0)), zVi (a0 17) k1 2 f1, zVi (a0 19) k2 28 f2, zVi (a0 20) k3 28 f3, zVi (a0 21) k4 28 f4, zVl (a0 31) k5 14 o_6.1, zVl (a0 22) k6 28 f6, zVl (a0 23) k7 28 f7, zVl (a0 32) k8 14 o_6.2, zVi (a0 39) k9 14 f9, zVi (a0 14) k10 8 f10, zVl (a0 40) k11 14 s_1.2.2.2.2.2, zVi (a0 15) k12 8 f12, zVi (a0 26) k13 28 f13]) hP hK hD hS hA ⟨hx, hb, hml, hown, hts⟩ (zf_X12_laysRange l dC dI h0 s_1.1 a0 (zI (zI b0 41 s_1.2.1) 42 s_1.2.2.1) c0 k2 f2 k3 f3 k4 f4 k5 s_1.2.2.2.1 k6 f6 k7 f7 k8 s_1.2.2.2.2.1 o_6 hqo_6 H.size) (cwV 1 hts gX12_passes_X12_laysRange rfl rfl rfl zhd_X12_laysRange ⟨Nat.le_of_ble_eq_true rfl, Nat.le_of_ble_eq_true rfl⟩) [0, 2, 3, 4, 5, 6, 7, 8] rfl (of_decide_eq_true rfl) [1, 2, 3, 4, 5, 6, 7] rfl rfl rfl rfl hl.1 rfl (Nat.le_of_ble_eq_true rfl) dX12_passes_32 ⟨Nat.le_of_ble_eq_true rfl, Nat.le_of_ble_eq_true rfl⟩ [some 0, none, some 1, some 2, some 3, some 4, some 5, some 6, some 7] (of_decide_eq_true rfl) (of_decide_eq_true rfl) rfl rfl rfl (fun H locs hP hD hS => ?_)
      refine lv_aload_n hx hb dX12_passes_35 rfl (lv_at hl 1 rfl) ?_
      refine lv_iload_n hx hb dX12_passes_36 rfl (lv_at hl 0 rfl) ?_
      obtain ⟨o_10, hqo_10, hfn⟩ := zb_s hfn
      refine zcVv (ci := 12) (rest := []) (pc' := 40) (ws' := [(h0, .inr (12, zO a0 (zI (zI b0 41 s_1.2.1) 42 s_1.2.2.1) c0)), zVi (a0 17) k1 2 f1, zVi (a0 19) k2 28 f2, zVi (a0 20) k3 28 f3, zVi (a0 21) k4 28 f4, zVl (a0 31) k5 14 o_6.1, zVl (a0 22) k6 28 f6, zVl (a0 23) k7 28 f7, zVl (a0 32) k8 14 o_6.2, zVi (a0 39) k9 14 f9, zVi (a0 14) k10 8 f10, zVl (a0 40) k11 14 o_10, zVi (a0 15) k12 8 f12, zVi (a0 26) k13 28 f13]) hP hK hD hS hA ⟨hx, hb, hml, hown, hts⟩ (zf_X12_laysError l dC dI h0 s_1.1 a0 (zI (zI b0 41 s_1.2.1) 42 s_1.2.2.1) c0 k9 f9 k10 f10 k2 f2 k3 f3 k4 f4 k11 s_1.2.2.2.2.2 k6 f6 k7 f7 k5 o_6.1 k8 o_6.2 o_10 hqo_10 H.size) (cwV 1 hts gX12_passes_X12_laysError rfl rfl rfl zhd_X12_laysError ⟨Nat.le_of_ble_eq_true rfl, Nat.le_of_ble_eq_true rfl⟩) [0, 9, 10, 2, 3, 4, 11, 6, 7, 5, 8] rfl (of_decide_eq_true rfl) [8, 9, 1, 2, 3, 10, 5, 6, 4, 7] rfl rfl rfl rfl hl.1 rfl (Nat.le_of_ble_eq_true rfl) dX12_passes_37 ⟨Nat.le_of_ble_eq_true rfl, Nat.le_of_ble_eq_true rfl⟩ [some 0, none, some 3, some 4, some 5, some 9, some 7, some 8, some 10, some 1, some 2, some 6] (of_decide_eq_true rfl) (of_decide_eq_true rfl) rfl rfl rfl (fun H locs hP hD hS => ?_)
      refine lv_aload_n hx hb dX12_passes_40 rfl (lv_at hl 1 rfl) ?_
      refine lv_iload_n hx hb dX12_passes_41 rfl (lv_at hl 0 rfl) ?_
      obtain ⟨o_14, hqo_14, hfn⟩ := zb_s hfn
      refine zcVl (ci := 12) (rest := []) (pc' := 45) (ws' := [(h0, .inr (12, zO a0 (zI (zI b0 41 s_1.2.1) 42 s_1.2.2.1) c0)), zVi (a0 17) k1 2 f1, zVi (a0 19) k2 28 f2, zVi (a0 20) k3 28 f3, zVi (a0 21) k4 28 f4, zVl (a0 31) k5 14 o_6.1, zVl (a0 22) k6 28 f6, zVl (a0 23) k7 28 f7, zVl (a0 32) k8 14 o_6.2, zVi (a0 39) k9 14 f9, zVi (a0 14) k10 8 f10, zVl (a0 40) k11 14 o_10, zVi (a0 15) k12 8 f12, zVi (a0 26) k13 28 f13]) hP hK hD hS hA ⟨hx, hb, hml, hown, hts⟩ (zf_X12_mostOf l dC dI h0 s_1.1 a0 (zI (zI b0 41 s_1.2.1) 42 s_1.2.2.1) c0 k5 o_6.1 k8 o_6.2 o_14 hqo_14 H.size) (cwV 1 hts gX12_passes_X12_mostOf rfl rfl rfl zhd_X12_mostOf ⟨Nat.le_of_ble_eq_true rfl, Nat.le_of_ble_eq_true rfl⟩) [0, 5, 8] rfl (of_decide_eq_true rfl) [4, 7] rfl rfl rfl rfl hl.1 rfl (Nat.le_of_ble_eq_true rfl) dX12_passes_42 ⟨Nat.le_of_ble_eq_true rfl, Nat.le_of_ble_eq_true rfl⟩ [some 0, none, none, none, none, some 1, none, none, some 2] (of_decide_eq_true rfl) (of_decide_eq_true rfl) rfl rfl rfl (fun H locs hP hD hS => ?_)
      refine lv_aload_n hx hb dX12_passes_45 rfl (lv_at hl 1 rfl) ?_
      refine va_get (D := (dC, dI)) (ci := 12) (v := .ref (a0 40)) (C := RX12) (T := TX12) (N := 67) hx hb hts zn_X12_passes_X12 hown hK hP 0 rfl rfl 40 (of_decide_eq_true rfl) (hts (.fieldLink RX12 135 "ShortEnoughModel" "error" "[J") zw_X12_passes_1161) (fun _ h9 => h9) rfl dX12_passes_46 ?_
      refine lv_iload_n hx hb dX12_passes_49 rfl (lv_at hl 0 rfl) ?_
      obtain ⟨h_18, hfn⟩ := zg_s hfn
      refine va_lald hx hb hK hP 11 10 rfl rfl h_18 dX12_passes_50 ?_
      refine lv_ladd hx hb dX12_passes_51 ?_
      refine lv_aload_n hx hb dX12_passes_52 rfl (lv_at hl 1 rfl) ?_
      refine va_get (D := (dC, dI)) (ci := 12) (v := .ref (a0 15)) (C := RX12) (T := TX12) (N := 67) hx hb hts zn_X12_passes_X12 hown hK hP 0 rfl rfl 15 (of_decide_eq_true rfl) (hts (.fieldLink RX12 56 "ShortEnoughModel" "most" "[I") zw_X12_passes_1162) (fun _ h9 => h9) rfl dX12_passes_53 ?_
      refine lv_aload_n hx hb dX12_passes_56 rfl (lv_at hl 1 rfl) ?_
      refine va_get (D := (dC, dI)) (ci := 12) (v := .ref (a0 39)) (C := RX12) (T := TX12) (N := 67) hx hb hts zn_X12_passes_X12 hown hK hP 0 rfl rfl 39 (of_decide_eq_true rfl) (hts (.fieldLink RX12 132 "ShortEnoughModel" "tried" "[I") zw_X12_passes_1163) (fun _ h9 => h9) rfl dX12_passes_57 ?_
      refine lv_iload_n hx hb dX12_passes_60 rfl (lv_at hl 0 rfl) ?_
      refine va_iald hx hb hK hP 9 8 rfl rfl h_18 dX12_passes_61 ?_
      obtain ⟨h_19, hfn⟩ := zg_s hfn
      refine va_iald hx hb hK hP 12 11 rfl rfl h_19 dX12_passes_62 ?_
      refine lv_i2l (v := (f12 (f9 s_1.1.toNatClampNeg).toNatClampNeg).toInt64) hx hb dX12_passes_63 rfl ?_
      refine W.lcmp hx hb dX12_passes_64 ?_
      refine lv_if_le (tgt := 76) hx hb dX12_passes_65 (of_decide_eq_true rfl) (fun c_20 => ?_) (fun c_20 => ?_)
      · have hfn := (if_pos c_20).symm.trans hfn
        refine lv_aload_n hx hb dX12_passes_76 rfl (lv_at hl 1 rfl) ?_
        refine va_get (D := (dC, dI)) (ci := 12) (v := .ref (a0 26)) (C := RX12) (T := TX12) (N := 67) hx hb hts zn_X12_passes_X12 hown hK hP 0 rfl rfl 26 (of_decide_eq_true rfl) (hts (.fieldLink RX12 90 "ShortEnoughModel" "within" "[I") zw_X12_passes_1164) (fun _ h9 => h9) rfl dX12_passes_77 ?_
        refine lv_iload_n hx hb dX12_passes_80 rfl (lv_at hl 0 rfl) ?_
        obtain ⟨h_21, hfn⟩ := zg_s hfn
        refine va_iald hx hb hK hP 13 12 rfl rfl h_21 dX12_passes_81 ?_
        refine lv_iconst (v := (-1)) hx hb dX12_passes_82 zci_m1 ?_
        refine lv_icmp_eq (tgt := 108) hx hb dX12_passes_83 (of_decide_eq_true rfl) (fun c_22 => ?_) (fun c_22 => ?_)
        · have hfn := (if_pos c_22).symm.trans hfn
          refine lv_aload_n hx hb dX12_passes_108 rfl (lv_at hl 1 rfl) ?_
          refine va_get (D := (dC, dI)) (ci := 12) (v := .int s_1.2.2.1) (C := RX12) (T := TX12) (N := 67) hx hb hts zn_X12_passes_X12 hown hK hP 0 rfl rfl 42 (of_decide_eq_true rfl) (hts (.fieldLink RX12 141 "ShortEnoughModel" "failsWhy" "I") zw_X12_passes_1159) (fun _ h9 => h9) rfl dX12_passes_109 ?_
          refine lv_if_le (tgt := 120) hx hb dX12_passes_112 (of_decide_eq_true rfl) (fun c_23 => ?_) (fun c_23 => ?_)
          · have hfn := (if_pos c_23).symm.trans hfn
            refine lv_iinc (v := (s_1.1 + 1)) (lv' := [(1, .int (s_1.1 + 1)), (0, .ref h0)]) hx hb dX12_passes_120 hl (k := 0) rfl rfl (of_decide_eq_true rfl) rfl (fun ls hl => ?_)
            refine lv_goto (tgt := 13) hx hb dX12_passes_123 (of_decide_eq_true rfl) ?_
            exact ih_1 ((s_1.1 + 1), s_1.2.1, s_1.2.2.1, o_6.1, o_6.2, o_10) H locs ls hfn hP hD hS (lv_sub hl [0, 1] rfl)
          have hfn := (if_neg c_23).symm.trans hfn
          refine lv_aload_n hx hb dX12_passes_115 rfl (lv_at hl 1 rfl) ?_
          refine lv_iload_n hx hb dX12_passes_116 rfl (lv_at hl 0 rfl) ?_
          refine va_put (D := (dC, dI)) (ci := 12) (v := .int s_1.1) (ty := .int) (C := RX12) (T := TX12) (N := 67) hx hb hts zn_X12_passes_X12 tyX12 tyX12_ok nmX12 hown hK hP hD hS 0 rfl rfl 41 (of_decide_eq_true rfl) (hts (.fieldLink RX12 138 "ShortEnoughModel" "failsAt" "I") zw_X12_passes_1158) (fun _ h9 => h9) rfl (tyX12_ok 41 (of_decide_eq_true rfl)) rfl rfl (Nat.le_of_ble_eq_true rfl) dX12_passes_117 (fun H locs hP hD hS => ?_)
          have hP : va_P (dC, dI) vwCl [(h0, .inr (12, zO a0 (zI (zI b0 41 s_1.1) 42 s_1.2.2.1) c0)), zVi (a0 17) k1 2 f1, zVi (a0 19) k2 28 f2, zVi (a0 20) k3 28 f3, zVi (a0 21) k4 28 f4, zVl (a0 31) k5 14 o_6.1, zVl (a0 22) k6 28 f6, zVl (a0 23) k7 28 f7, zVl (a0 32) k8 14 o_6.2, zVi (a0 39) k9 14 f9, zVi (a0 14) k10 8 f10, zVl (a0 40) k11 14 o_10, zVi (a0 15) k12 8 f12, zVi (a0 26) k13 28 f13] H := hP
          have hD := zDW hD hP rfl
          refine lv_iinc (v := (s_1.1 + 1)) (lv' := [(1, .int (s_1.1 + 1)), (0, .ref h0)]) hx hb dX12_passes_120 hl (k := 0) rfl rfl (of_decide_eq_true rfl) rfl (fun ls hl => ?_)
          refine lv_goto (tgt := 13) hx hb dX12_passes_123 (of_decide_eq_true rfl) ?_
          exact ih_1 ((s_1.1 + 1), s_1.1, s_1.2.2.1, o_6.1, o_6.2, o_10) H locs ls hfn hP hD hS (lv_sub hl [0, 1] rfl)
        have hfn := (if_neg c_22).symm.trans hfn
        refine lv_aload_n hx hb dX12_passes_86 rfl (lv_at hl 1 rfl) ?_
        refine va_get (D := (dC, dI)) (ci := 12) (v := .ref (a0 40)) (C := RX12) (T := TX12) (N := 67) hx hb hts zn_X12_passes_X12 hown hK hP 0 rfl rfl 40 (of_decide_eq_true rfl) (hts (.fieldLink RX12 135 "ShortEnoughModel" "error" "[J") zw_X12_passes_1161) (fun _ h9 => h9) rfl dX12_passes_87 ?_
        refine lv_iload_n hx hb dX12_passes_90 rfl (lv_at hl 0 rfl) ?_
        refine va_lald hx hb hK hP 11 10 rfl rfl h_18 dX12_passes_91 ?_
        refine lv_aload_n hx hb dX12_passes_92 rfl (lv_at hl 1 rfl) ?_
        refine va_get (D := (dC, dI)) (ci := 12) (v := .ref (a0 26)) (C := RX12) (T := TX12) (N := 67) hx hb hts zn_X12_passes_X12 hown hK hP 0 rfl rfl 26 (of_decide_eq_true rfl) (hts (.fieldLink RX12 90 "ShortEnoughModel" "within" "[I") zw_X12_passes_1164) (fun _ h9 => h9) rfl dX12_passes_93 ?_
        refine lv_iload_n hx hb dX12_passes_96 rfl (lv_at hl 0 rfl) ?_
        refine va_iald hx hb hK hP 13 12 rfl rfl h_21 dX12_passes_97 ?_
        refine lv_i2l (v := (f13 s_1.1.toNatClampNeg).toInt64) hx hb dX12_passes_98 rfl ?_
        refine W.lcmp hx hb dX12_passes_99 ?_
        refine lv_if_le (tgt := 108) hx hb dX12_passes_100 (of_decide_eq_true rfl) (fun c_24 => ?_) (fun c_24 => ?_)
        · have hfn := (if_pos c_24).symm.trans hfn
          refine lv_aload_n hx hb dX12_passes_108 rfl (lv_at hl 1 rfl) ?_
          refine va_get (D := (dC, dI)) (ci := 12) (v := .int s_1.2.2.1) (C := RX12) (T := TX12) (N := 67) hx hb hts zn_X12_passes_X12 hown hK hP 0 rfl rfl 42 (of_decide_eq_true rfl) (hts (.fieldLink RX12 141 "ShortEnoughModel" "failsWhy" "I") zw_X12_passes_1159) (fun _ h9 => h9) rfl dX12_passes_109 ?_
          refine lv_if_le (tgt := 120) hx hb dX12_passes_112 (of_decide_eq_true rfl) (fun c_25 => ?_) (fun c_25 => ?_)
          · have hfn := (if_pos c_25).symm.trans hfn
            refine lv_iinc (v := (s_1.1 + 1)) (lv' := [(1, .int (s_1.1 + 1)), (0, .ref h0)]) hx hb dX12_passes_120 hl (k := 0) rfl rfl (of_decide_eq_true rfl) rfl (fun ls hl => ?_)
            refine lv_goto (tgt := 13) hx hb dX12_passes_123 (of_decide_eq_true rfl) ?_
            exact ih_1 ((s_1.1 + 1), s_1.2.1, s_1.2.2.1, o_6.1, o_6.2, o_10) H locs ls hfn hP hD hS (lv_sub hl [0, 1] rfl)
          have hfn := (if_neg c_25).symm.trans hfn
          refine lv_aload_n hx hb dX12_passes_115 rfl (lv_at hl 1 rfl) ?_
          refine lv_iload_n hx hb dX12_passes_116 rfl (lv_at hl 0 rfl) ?_
          refine va_put (D := (dC, dI)) (ci := 12) (v := .int s_1.1) (ty := .int) (C := RX12) (T := TX12) (N := 67) hx hb hts zn_X12_passes_X12 tyX12 tyX12_ok nmX12 hown hK hP hD hS 0 rfl rfl 41 (of_decide_eq_true rfl) (hts (.fieldLink RX12 138 "ShortEnoughModel" "failsAt" "I") zw_X12_passes_1158) (fun _ h9 => h9) rfl (tyX12_ok 41 (of_decide_eq_true rfl)) rfl rfl (Nat.le_of_ble_eq_true rfl) dX12_passes_117 (fun H locs hP hD hS => ?_)
          have hP : va_P (dC, dI) vwCl [(h0, .inr (12, zO a0 (zI (zI b0 41 s_1.1) 42 s_1.2.2.1) c0)), zVi (a0 17) k1 2 f1, zVi (a0 19) k2 28 f2, zVi (a0 20) k3 28 f3, zVi (a0 21) k4 28 f4, zVl (a0 31) k5 14 o_6.1, zVl (a0 22) k6 28 f6, zVl (a0 23) k7 28 f7, zVl (a0 32) k8 14 o_6.2, zVi (a0 39) k9 14 f9, zVi (a0 14) k10 8 f10, zVl (a0 40) k11 14 o_10, zVi (a0 15) k12 8 f12, zVi (a0 26) k13 28 f13] H := hP
          have hD := zDW hD hP rfl
          refine lv_iinc (v := (s_1.1 + 1)) (lv' := [(1, .int (s_1.1 + 1)), (0, .ref h0)]) hx hb dX12_passes_120 hl (k := 0) rfl rfl (of_decide_eq_true rfl) rfl (fun ls hl => ?_)
          refine lv_goto (tgt := 13) hx hb dX12_passes_123 (of_decide_eq_true rfl) ?_
          exact ih_1 ((s_1.1 + 1), s_1.1, s_1.2.2.1, o_6.1, o_6.2, o_10) H locs ls hfn hP hD hS (lv_sub hl [0, 1] rfl)
        have hfn := (if_neg c_24).symm.trans hfn
        refine lv_aload_n hx hb dX12_passes_103 rfl (lv_at hl 1 rfl) ?_
        refine lv_iconst (v := 2) hx hb dX12_passes_104 zci_2 ?_
        refine va_put (D := (dC, dI)) (ci := 12) (v := .int 2) (ty := .int) (C := RX12) (T := TX12) (N := 67) hx hb hts zn_X12_passes_X12 tyX12 tyX12_ok nmX12 hown hK hP hD hS 0 rfl rfl 42 (of_decide_eq_true rfl) (hts (.fieldLink RX12 141 "ShortEnoughModel" "failsWhy" "I") zw_X12_passes_1159) (fun _ h9 => h9) rfl (tyX12_ok 42 (of_decide_eq_true rfl)) rfl rfl (Nat.le_of_ble_eq_true rfl) dX12_passes_105 (fun H locs hP hD hS => ?_)
        have hP : va_P (dC, dI) vwCl [(h0, .inr (12, zO a0 (zI (zI b0 41 s_1.2.1) 42 2) c0)), zVi (a0 17) k1 2 f1, zVi (a0 19) k2 28 f2, zVi (a0 20) k3 28 f3, zVi (a0 21) k4 28 f4, zVl (a0 31) k5 14 o_6.1, zVl (a0 22) k6 28 f6, zVl (a0 23) k7 28 f7, zVl (a0 32) k8 14 o_6.2, zVi (a0 39) k9 14 f9, zVi (a0 14) k10 8 f10, zVl (a0 40) k11 14 o_10, zVi (a0 15) k12 8 f12, zVi (a0 26) k13 28 f13] H := hP
        have hD := zDW hD hP rfl
        refine lv_aload_n hx hb dX12_passes_108 rfl (lv_at hl 1 rfl) ?_
        refine va_get (D := (dC, dI)) (ci := 12) (v := .int 2) (C := RX12) (T := TX12) (N := 67) hx hb hts zn_X12_passes_X12 hown hK hP 0 rfl rfl 42 (of_decide_eq_true rfl) (hts (.fieldLink RX12 141 "ShortEnoughModel" "failsWhy" "I") zw_X12_passes_1159) (fun _ h9 => h9) rfl dX12_passes_109 ?_
        refine lv_if_le (tgt := 120) hx hb dX12_passes_112 (of_decide_eq_true rfl) (fun c_26 => absurd c_26 (by decide +kernel)) (fun _ => ?_)
        refine lv_aload_n hx hb dX12_passes_115 rfl (lv_at hl 1 rfl) ?_
        refine lv_iload_n hx hb dX12_passes_116 rfl (lv_at hl 0 rfl) ?_
        refine va_put (D := (dC, dI)) (ci := 12) (v := .int s_1.1) (ty := .int) (C := RX12) (T := TX12) (N := 67) hx hb hts zn_X12_passes_X12 tyX12 tyX12_ok nmX12 hown hK hP hD hS 0 rfl rfl 41 (of_decide_eq_true rfl) (hts (.fieldLink RX12 138 "ShortEnoughModel" "failsAt" "I") zw_X12_passes_1158) (fun _ h9 => h9) rfl (tyX12_ok 41 (of_decide_eq_true rfl)) rfl rfl (Nat.le_of_ble_eq_true rfl) dX12_passes_117 (fun H locs hP hD hS => ?_)
        have hP : va_P (dC, dI) vwCl [(h0, .inr (12, zO a0 (zI (zI b0 41 s_1.1) 42 2) c0)), zVi (a0 17) k1 2 f1, zVi (a0 19) k2 28 f2, zVi (a0 20) k3 28 f3, zVi (a0 21) k4 28 f4, zVl (a0 31) k5 14 o_6.1, zVl (a0 22) k6 28 f6, zVl (a0 23) k7 28 f7, zVl (a0 32) k8 14 o_6.2, zVi (a0 39) k9 14 f9, zVi (a0 14) k10 8 f10, zVl (a0 40) k11 14 o_10, zVi (a0 15) k12 8 f12, zVi (a0 26) k13 28 f13] H := hP
        have hD := zDW hD hP rfl
        refine lv_iinc (v := (s_1.1 + 1)) (lv' := [(1, .int (s_1.1 + 1)), (0, .ref h0)]) hx hb dX12_passes_120 hl (k := 0) rfl rfl (of_decide_eq_true rfl) rfl (fun ls hl => ?_)
        refine lv_goto (tgt := 13) hx hb dX12_passes_123 (of_decide_eq_true rfl) ?_
        exact ih_1 ((s_1.1 + 1), s_1.1, 2, o_6.1, o_6.2, o_10) H locs ls hfn hP hD hS (lv_sub hl [0, 1] rfl)
      have hfn := (if_neg c_20).symm.trans hfn
      refine lv_aload_n hx hb dX12_passes_68 rfl (lv_at hl 1 rfl) ?_
      refine lv_iconst (v := 1) hx hb dX12_passes_69 zci_1 ?_
      refine va_put (D := (dC, dI)) (ci := 12) (v := .int 1) (ty := .int) (C := RX12) (T := TX12) (N := 67) hx hb hts zn_X12_passes_X12 tyX12 tyX12_ok nmX12 hown hK hP hD hS 0 rfl rfl 42 (of_decide_eq_true rfl) (hts (.fieldLink RX12 141 "ShortEnoughModel" "failsWhy" "I") zw_X12_passes_1159) (fun _ h9 => h9) rfl (tyX12_ok 42 (of_decide_eq_true rfl)) rfl rfl (Nat.le_of_ble_eq_true rfl) dX12_passes_70 (fun H locs hP hD hS => ?_)
      have hP : va_P (dC, dI) vwCl [(h0, .inr (12, zO a0 (zI (zI b0 41 s_1.2.1) 42 1) c0)), zVi (a0 17) k1 2 f1, zVi (a0 19) k2 28 f2, zVi (a0 20) k3 28 f3, zVi (a0 21) k4 28 f4, zVl (a0 31) k5 14 o_6.1, zVl (a0 22) k6 28 f6, zVl (a0 23) k7 28 f7, zVl (a0 32) k8 14 o_6.2, zVi (a0 39) k9 14 f9, zVi (a0 14) k10 8 f10, zVl (a0 40) k11 14 o_10, zVi (a0 15) k12 8 f12, zVi (a0 26) k13 28 f13] H := hP
      have hD := zDW hD hP rfl
      refine lv_goto (tgt := 108) hx hb dX12_passes_73 (of_decide_eq_true rfl) ?_
      refine lv_aload_n hx hb dX12_passes_108 rfl (lv_at hl 1 rfl) ?_
      refine va_get (D := (dC, dI)) (ci := 12) (v := .int 1) (C := RX12) (T := TX12) (N := 67) hx hb hts zn_X12_passes_X12 hown hK hP 0 rfl rfl 42 (of_decide_eq_true rfl) (hts (.fieldLink RX12 141 "ShortEnoughModel" "failsWhy" "I") zw_X12_passes_1159) (fun _ h9 => h9) rfl dX12_passes_109 ?_
      refine lv_if_le (tgt := 120) hx hb dX12_passes_112 (of_decide_eq_true rfl) (fun c_27 => absurd c_27 (by decide +kernel)) (fun _ => ?_)
      refine lv_aload_n hx hb dX12_passes_115 rfl (lv_at hl 1 rfl) ?_
      refine lv_iload_n hx hb dX12_passes_116 rfl (lv_at hl 0 rfl) ?_
      refine va_put (D := (dC, dI)) (ci := 12) (v := .int s_1.1) (ty := .int) (C := RX12) (T := TX12) (N := 67) hx hb hts zn_X12_passes_X12 tyX12 tyX12_ok nmX12 hown hK hP hD hS 0 rfl rfl 41 (of_decide_eq_true rfl) (hts (.fieldLink RX12 138 "ShortEnoughModel" "failsAt" "I") zw_X12_passes_1158) (fun _ h9 => h9) rfl (tyX12_ok 41 (of_decide_eq_true rfl)) rfl rfl (Nat.le_of_ble_eq_true rfl) dX12_passes_117 (fun H locs hP hD hS => ?_)
      have hP : va_P (dC, dI) vwCl [(h0, .inr (12, zO a0 (zI (zI b0 41 s_1.1) 42 1) c0)), zVi (a0 17) k1 2 f1, zVi (a0 19) k2 28 f2, zVi (a0 20) k3 28 f3, zVi (a0 21) k4 28 f4, zVl (a0 31) k5 14 o_6.1, zVl (a0 22) k6 28 f6, zVl (a0 23) k7 28 f7, zVl (a0 32) k8 14 o_6.2, zVi (a0 39) k9 14 f9, zVi (a0 14) k10 8 f10, zVl (a0 40) k11 14 o_10, zVi (a0 15) k12 8 f12, zVi (a0 26) k13 28 f13] H := hP
      have hD := zDW hD hP rfl
      refine lv_iinc (v := (s_1.1 + 1)) (lv' := [(1, .int (s_1.1 + 1)), (0, .ref h0)]) hx hb dX12_passes_120 hl (k := 0) rfl rfl (of_decide_eq_true rfl) rfl (fun ls hl => ?_)
      refine lv_goto (tgt := 13) hx hb dX12_passes_123 (of_decide_eq_true rfl) ?_
      exact ih_1 ((s_1.1 + 1), s_1.1, 1, o_6.1, o_6.2, o_10) H locs ls hfn hP hD hS (lv_sub hl [0, 1] rfl)
  exact lp_1 _ (0, (-2), 0, f5, f8, f11) H locs ls hfn hP hD hS (lv_sub hl [0, 1] rfl)
theorem zn_X12_isCast_X12 : ∀ w ∈ wsX120, w ∈ wsX12_isCast := fun _ h => List.mem_cons_of_mem _ (List.mem_append_right _ h)
theorem zw_X12_isCast_1166 : Cond.fieldLink RX12 132 "ShortEnoughModel" "tried" "[I" ∈ wsX12_isCast := List.mem_of_getElem? (i := 1) (by decide +kernel)
set_option maxHeartbeats 4000000 in
set_option maxRecDepth 100000 in
theorem zf_X12_isCast (l : Launch) (dC : Nat → ClassId) (dI : Nat → Nat → Nat) (h0 : Nat) (p1 : Int32) (p2 : Int32) (a0 : Nat → Nat) (b0 : Nat → Int32) (c0 : Nat → Int64) (k1 : Nat) (f1 : Nat → Int32) (o : Int32) (hfn : fn_X12_isCast p1 p2 f1 = some o) (sz : Nat) : zMi l yX12_isCast wsX12_isCast ({ frames := 0, cells := 0, slots := 0, locals := 0 }) (dC, dI) vwCl [.ref h0, .int p1, .int p2] [(h0, .inr (12, zO a0 b0 c0)), zVi (a0 39) k1 14 f1] [(k1, .int)] (fun r _ => r = o ∧ narrow .boolean (.int o) = .int o) [(h0, .inr (12, zO a0 b0 c0)), zVi (a0 39) k1 14 f1] [(k1, .int)] sz := by
  refine zgoi (cc := cX12_isCast) (maxL := 3) (ret := (some .boolean)) (C0 := RX12) (lv0 := [(0, .ref h0), (1, .int p1), (2, .int p2)]) zpl_X12 rfl rfl rfl (Nat.le_of_ble_eq_true rfl) ?_
  intro p e s m below meth c A ls Q hx hb hr hts hown hlocks hml hP hK hD hA hS hl hQ
  unfold fn_X12_isCast at hfn
  refine lv_iload_n hx hb dX12_isCast_0 rfl (lv_at hl 2 rfl) ?_
  refine lv_iconst (v := (-1)) hx hb dX12_isCast_1 zci_m1 ?_
  refine lv_icmp_eq (tgt := 24) hx hb dX12_isCast_2 (of_decide_eq_true rfl) (fun c_1 => ?_) (fun c_1 => ?_)
  · have hfn := (if_pos c_1).symm.trans hfn
    refine lv_iconst (v := 0) hx hb dX12_isCast_24 zci_0 ?_
    have ho := Option.some.inj hfn
    subst ho
    exact zrz hx hb hr rfl hK hP hD hS hQ ⟨rfl, zB0⟩ hlocks dX12_isCast_25
  have hfn := (if_neg c_1).symm.trans hfn
  refine lv_aload_n hx hb dX12_isCast_5 rfl (lv_at hl 0 rfl) ?_
  refine va_get (D := (dC, dI)) (ci := 12) (v := .ref (a0 39)) (C := RX12) (T := TX12) (N := 67) hx hb hts zn_X12_isCast_X12 hown hK hP 0 rfl rfl 39 (of_decide_eq_true rfl) (hts (.fieldLink RX12 132 "ShortEnoughModel" "tried" "[I") zw_X12_isCast_1166) (fun _ h9 => h9) rfl dX12_isCast_6 ?_
  refine lv_iload_n hx hb dX12_isCast_9 rfl (lv_at hl 2 rfl) ?_
  obtain ⟨h_2, hfn⟩ := zg_s hfn
  refine va_iald hx hb hK hP 1 0 rfl rfl h_2 dX12_isCast_10 ?_
  refine lv_aload_n hx hb dX12_isCast_11 rfl (lv_at hl 0 rfl) ?_
  refine va_get (D := (dC, dI)) (ci := 12) (v := .ref (a0 39)) (C := RX12) (T := TX12) (N := 67) hx hb hts zn_X12_isCast_X12 hown hK hP 0 rfl rfl 39 (of_decide_eq_true rfl) (hts (.fieldLink RX12 132 "ShortEnoughModel" "tried" "[I") zw_X12_isCast_1166) (fun _ h9 => h9) rfl dX12_isCast_12 ?_
  refine lv_iload_n hx hb dX12_isCast_15 rfl (lv_at hl 1 rfl) ?_
  obtain ⟨h_3, hfn⟩ := zg_s hfn
  refine va_iald hx hb hK hP 1 0 rfl rfl h_3 dX12_isCast_16 ?_
  refine lv_icmp_eq (tgt := 24) hx hb dX12_isCast_17 (of_decide_eq_true rfl) (fun c_4 => ?_) (fun c_4 => ?_)
  · have hfn := (if_pos c_4).symm.trans hfn
    refine lv_iconst (v := 0) hx hb dX12_isCast_24 zci_0 ?_
    have ho := Option.some.inj hfn
    subst ho
    exact zrz hx hb hr rfl hK hP hD hS hQ ⟨rfl, zB0⟩ hlocks dX12_isCast_25
  have hfn := (if_neg c_4).symm.trans hfn
  refine lv_iconst (v := 1) hx hb dX12_isCast_20 zci_1 ?_
  refine lv_goto (tgt := 25) hx hb dX12_isCast_21 (of_decide_eq_true rfl) ?_
  have ho := Option.some.inj hfn
  subst ho
  exact zrz hx hb hr rfl hK hP hD hS hQ ⟨rfl, zB1⟩ hlocks dX12_isCast_25
theorem zn_X12_castsTried_X12 : ∀ w ∈ wsX120, w ∈ wsX12_castsTried := fun _ h => List.mem_cons_of_mem _ (List.mem_append_right _ h)
theorem zw_X12_castsTried_1168 : Cond.fieldLink RX12 62 "ShortEnoughModel" "numbers" "[I" ∈ wsX12_castsTried := List.mem_of_getElem? (i := 1) (by decide +kernel)
theorem zw_X12_castsTried_1169 : Cond.fieldLink RX12 71 "ShortEnoughModel" "first" "[I" ∈ wsX12_castsTried := List.mem_of_getElem? (i := 2) (by decide +kernel)
theorem zw_X12_castsTried_1170 : Cond.fieldLink RX12 74 "ShortEnoughModel" "second" "[I" ∈ wsX12_castsTried := List.mem_of_getElem? (i := 3) (by decide +kernel)
set_option maxHeartbeats 4000000 in
set_option maxRecDepth 100000 in
theorem zf_X12_castsTried (l : Launch) (dC : Nat → ClassId) (dI : Nat → Nat → Nat) (h0 : Nat) (a0 : Nat → Nat) (b0 : Nat → Int32) (c0 : Nat → Int64) (k1 : Nat) (f1 : Nat → Int32) (k2 : Nat) (f2 : Nat → Int32) (k3 : Nat) (f3 : Nat → Int32) (k4 : Nat) (f4 : Nat → Int32) (o : Int32) (hfn : fn_X12_castsTried f1 f2 f3 f4 = some o) (sz : Nat) : zMi l yX12_castsTried wsX12_castsTried ({ frames := 1, cells := 0, slots := 0, locals := 22 }) (dC, dI) vwCl [.ref h0] [(h0, .inr (12, zO a0 b0 c0)), zVi (a0 17) k1 2 f1, zVi (a0 20) k2 28 f2, zVi (a0 39) k3 14 f3, zVi (a0 21) k4 28 f4] [(k1, .int), (k2, .int), (k3, .int), (k4, .int)] (fun r _ => r = o) [(h0, .inr (12, zO a0 b0 c0)), zVi (a0 17) k1 2 f1, zVi (a0 20) k2 28 f2, zVi (a0 39) k3 14 f3, zVi (a0 21) k4 28 f4] [(k1, .int), (k2, .int), (k3, .int), (k4, .int)] sz := by
  refine zgoi (cc := cX12_castsTried) (maxL := 3) (ret := (some .int)) (C0 := RX12) (lv0 := [(0, .ref h0)]) zpl_X12 rfl rfl rfl (Nat.le_of_ble_eq_true rfl) ?_
  intro p e s m below meth c A ls Q hx hb hr hts hown hlocks hml hP hK hD hA hS hl hQ
  unfold fn_X12_castsTried at hfn
  refine lv_iconst (v := 0) hx hb dX12_castsTried_0 zci_0 ?_
  refine lv_istore_n (lv' := [(1, .int 0), (0, .ref h0)]) hx hb dX12_castsTried_1 rfl hl (of_decide_eq_true rfl) rfl (fun ls hl => ?_)
  refine lv_iconst (v := 0) hx hb dX12_castsTried_2 zci_0 ?_
  refine lv_istore_n (lv' := [(2, .int 0), (1, .int 0), (0, .ref h0)]) hx hb dX12_castsTried_3 rfl hl (of_decide_eq_true rfl) rfl (fun ls hl => ?_)
  obtain ⟨bd_1, ebd_1, hfn⟩ := zl_g hfn
  have lp_1 : ∀ (n : Nat) (s_1 : Int32 × Int32) (H : Heap) (locs : List Loc) (ls : Array Slot), zl bd_1 n s_1 = some o → va_P (dC, dI) vwCl [(h0, .inr (12, zO a0 b0 c0)), zVi (a0 17) k1 2 f1, zVi (a0 20) k2 28 f2, zVi (a0 39) k3 14 f3, zVi (a0 21) k4 28 f4] H → va_D A [(h0, .inr (12, zO a0 b0 c0)), zVi (a0 17) k1 2 f1, zVi (a0 20) k2 28 f2, zVi (a0 39) k3 14 f3, zVi (a0 21) k4 28 f4] → va_S A s.heap H locs → lv_has ls 3 [(2, .int s_1.2), (1, .int s_1.1), (0, .ref h0)] → W p l e (headSpec wsX12_castsTried ({ frames := 1, cells := 0, slots := 0, locals := 22 })).room s m ([.ref h0] : List Value).toArray below meth c H locs 0 0 Q (F0 m 4 ls []) := by
    intro n
    induction n with
    | zero => exact fun _ _ _ _ hfn => (zl_0 hfn).elim
    | succ n ih_1 =>
      intro s_1 H locs ls hfn hP hD hS hl
      have hfn := zl_s ebd_1 hfn
      refine lv_iload_n hx hb dX12_castsTried_4 rfl (lv_at hl 0 rfl) ?_
      refine lv_aload_n hx hb dX12_castsTried_5 rfl (lv_at hl 2 rfl) ?_
      refine va_get (D := (dC, dI)) (ci := 12) (v := .ref (a0 17)) (C := RX12) (T := TX12) (N := 67) hx hb hts zn_X12_castsTried_X12 hown hK hP 0 rfl rfl 17 (of_decide_eq_true rfl) (hts (.fieldLink RX12 62 "ShortEnoughModel" "numbers" "[I") zw_X12_castsTried_1168) (fun _ h9 => h9) rfl dX12_castsTried_6 ?_
      refine lv_iconst (v := 0) hx hb dX12_castsTried_9 zci_0 ?_
      refine va_iald hx hb hK hP 1 0 rfl rfl (zv_in (by decide +kernel)) dX12_castsTried_10 ?_
      refine lv_icmp_ge (tgt := 62) hx hb dX12_castsTried_11 (of_decide_eq_true rfl) (fun c_2 => ?_) (fun c_2 => ?_)
      · have hfn := (if_pos c_2).symm.trans hfn
        refine lv_iload_n hx hb dX12_castsTried_62 rfl (lv_at hl 1 rfl) ?_
        have ho := Option.some.inj hfn
        subst ho
        exact zri hx hb hr hK hP hD hS hQ rfl hlocks dX12_castsTried_63
      have hfn := (if_neg c_2).symm.trans hfn
      refine lv_iload_n hx hb dX12_castsTried_14 rfl (lv_at hl 1 rfl) ?_
      refine lv_aload_n hx hb dX12_castsTried_15 rfl (lv_at hl 2 rfl) ?_
      refine lv_iload_n hx hb dX12_castsTried_16 rfl (lv_at hl 0 rfl) ?_
      refine lv_aload_n hx hb dX12_castsTried_17 rfl (lv_at hl 2 rfl) ?_
      refine va_get (D := (dC, dI)) (ci := 12) (v := .ref (a0 20)) (C := RX12) (T := TX12) (N := 67) hx hb hts zn_X12_castsTried_X12 hown hK hP 0 rfl rfl 20 (of_decide_eq_true rfl) (hts (.fieldLink RX12 71 "ShortEnoughModel" "first" "[I") zw_X12_castsTried_1169) (fun _ h9 => h9) rfl dX12_castsTried_18 ?_
      refine lv_iload_n hx hb dX12_castsTried_21 rfl (lv_at hl 0 rfl) ?_
      obtain ⟨h_3, hfn⟩ := zg_s hfn
      refine va_iald hx hb hK hP 2 1 rfl rfl h_3 dX12_castsTried_22 ?_
      obtain ⟨o_4, hqo_4, hfn⟩ := zb_s hfn
      refine zcVb (ci := 12) (rest := [.int s_1.1]) (pc' := 26) (ws' := [(h0, .inr (12, zO a0 b0 c0)), zVi (a0 17) k1 2 f1, zVi (a0 20) k2 28 f2, zVi (a0 39) k3 14 f3, zVi (a0 21) k4 28 f4]) hP hK hD hS hA ⟨hx, hb, hml, hown, hts⟩ (zf_X12_isCast l dC dI h0 s_1.2 (f2 s_1.2.toNatClampNeg) a0 b0 c0 k3 f3 o_4 hqo_4 H.size) (cwV 2 hts gX12_castsTried_X12_isCast rfl rfl rfl zhd_X12_isCast ⟨Nat.le_of_ble_eq_true rfl, Nat.le_of_ble_eq_true rfl⟩) [0, 3] rfl (of_decide_eq_true rfl) [2] rfl rfl rfl rfl hl.1 rfl (Nat.le_of_ble_eq_true rfl) dX12_castsTried_23 ⟨Nat.le_of_ble_eq_true rfl, Nat.le_of_ble_eq_true rfl⟩ [some 0, none, none, some 1] (of_decide_eq_true rfl) (of_decide_eq_true rfl) rfl rfl rfl (fun H locs hw_7n hP hD hS => ?_)
      obtain ⟨j_8, ej_8, hfn⟩ := zj_g hfn
      have jp_8 : ∀ (s_8 : Int32) (H : Heap) (locs : List Loc) (ls : Array Slot), j_8 s_8 = some o → va_P (dC, dI) vwCl [(h0, .inr (12, zO a0 b0 c0)), zVi (a0 17) k1 2 f1, zVi (a0 20) k2 28 f2, zVi (a0 39) k3 14 f3, zVi (a0 21) k4 28 f4] H → va_D A [(h0, .inr (12, zO a0 b0 c0)), zVi (a0 17) k1 2 f1, zVi (a0 20) k2 28 f2, zVi (a0 39) k3 14 f3, zVi (a0 21) k4 28 f4] → va_S A s.heap H locs → lv_has ls 3 [(2, .int s_1.2), (0, .ref h0)] → W p l e (headSpec wsX12_castsTried ({ frames := 1, cells := 0, slots := 0, locals := 22 })).room s m ([.ref h0] : List Value).toArray below meth c H locs 0 0 Q (F0 m 34 ls [.int s_8, .int s_1.1]) := by
        intro s_8 H locs ls hfn hP hD hS hl
        have hfn := zj_s ej_8 hfn
        refine lv_aload_n hx hb dX12_castsTried_34 rfl (lv_at hl 1 rfl) ?_
        refine lv_iload_n hx hb dX12_castsTried_35 rfl (lv_at hl 0 rfl) ?_
        refine lv_aload_n hx hb dX12_castsTried_36 rfl (lv_at hl 1 rfl) ?_
        refine va_get (D := (dC, dI)) (ci := 12) (v := .ref (a0 21)) (C := RX12) (T := TX12) (N := 67) hx hb hts zn_X12_castsTried_X12 hown hK hP 0 rfl rfl 21 (of_decide_eq_true rfl) (hts (.fieldLink RX12 74 "ShortEnoughModel" "second" "[I") zw_X12_castsTried_1170) (fun _ h9 => h9) rfl dX12_castsTried_37 ?_
        refine lv_iload_n hx hb dX12_castsTried_40 rfl (lv_at hl 0 rfl) ?_
        obtain ⟨h_9, hfn⟩ := zg_s hfn
        refine va_iald hx hb hK hP 4 3 rfl rfl h_9 dX12_castsTried_41 ?_
        obtain ⟨o_10, hqo_10, hfn⟩ := zb_s hfn
        refine zcVb (ci := 12) (rest := [.int s_8, .int s_1.1]) (pc' := 45) (ws' := [(h0, .inr (12, zO a0 b0 c0)), zVi (a0 17) k1 2 f1, zVi (a0 20) k2 28 f2, zVi (a0 39) k3 14 f3, zVi (a0 21) k4 28 f4]) hP hK hD hS hA ⟨hx, hb, hml, hown, hts⟩ (zf_X12_isCast l dC dI h0 s_1.2 (f4 s_1.2.toNatClampNeg) a0 b0 c0 k3 f3 o_10 hqo_10 H.size) (cwV 2 hts gX12_castsTried_X12_isCast rfl rfl rfl zhd_X12_isCast ⟨Nat.le_of_ble_eq_true rfl, Nat.le_of_ble_eq_true rfl⟩) [0, 3] rfl (of_decide_eq_true rfl) [2] rfl rfl rfl rfl hl.1 rfl (Nat.le_of_ble_eq_true rfl) dX12_castsTried_42 ⟨Nat.le_of_ble_eq_true rfl, Nat.le_of_ble_eq_true rfl⟩ [some 0, none, none, some 1] (of_decide_eq_true rfl) (of_decide_eq_true rfl) rfl rfl rfl (fun H locs hw_13n hP hD hS => ?_)
        refine lv_if_eq (tgt := 52) hx hb dX12_castsTried_45 (of_decide_eq_true rfl) (fun c_14 => ?_) (fun c_14 => ?_)
        · have hfn := (if_pos c_14).symm.trans hfn
          refine lv_iconst (v := 0) hx hb dX12_castsTried_52 zci_0 ?_
          refine lv_iadd hx hb dX12_castsTried_53 ?_
          refine lv_iadd hx hb dX12_castsTried_54 ?_
          refine lv_istore_n (lv' := [(1, .int (s_1.1 + (s_8 + 0))), (2, .int s_1.2), (0, .ref h0)]) hx hb dX12_castsTried_55 rfl hl (of_decide_eq_true rfl) rfl (fun ls hl => ?_)
          refine lv_iinc (v := (s_1.2 + 1)) (lv' := [(2, .int (s_1.2 + 1)), (1, .int (s_1.1 + (s_8 + 0))), (0, .ref h0)]) hx hb dX12_castsTried_56 hl (k := 1) rfl rfl (of_decide_eq_true rfl) rfl (fun ls hl => ?_)
          refine lv_goto (tgt := 4) hx hb dX12_castsTried_59 (of_decide_eq_true rfl) ?_
          exact ih_1 ((s_1.1 + (s_8 + 0)), (s_1.2 + 1)) H locs ls hfn hP hD hS (lv_sub hl [0, 1, 2] rfl)
        have hfn := (if_neg c_14).symm.trans hfn
        refine lv_iconst (v := 1) hx hb dX12_castsTried_48 zci_1 ?_
        refine lv_goto (tgt := 53) hx hb dX12_castsTried_49 (of_decide_eq_true rfl) ?_
        refine lv_iadd hx hb dX12_castsTried_53 ?_
        refine lv_iadd hx hb dX12_castsTried_54 ?_
        refine lv_istore_n (lv' := [(1, .int (s_1.1 + (s_8 + 1))), (2, .int s_1.2), (0, .ref h0)]) hx hb dX12_castsTried_55 rfl hl (of_decide_eq_true rfl) rfl (fun ls hl => ?_)
        refine lv_iinc (v := (s_1.2 + 1)) (lv' := [(2, .int (s_1.2 + 1)), (1, .int (s_1.1 + (s_8 + 1))), (0, .ref h0)]) hx hb dX12_castsTried_56 hl (k := 1) rfl rfl (of_decide_eq_true rfl) rfl (fun ls hl => ?_)
        refine lv_goto (tgt := 4) hx hb dX12_castsTried_59 (of_decide_eq_true rfl) ?_
        exact ih_1 ((s_1.1 + (s_8 + 1)), (s_1.2 + 1)) H locs ls hfn hP hD hS (lv_sub hl [0, 1, 2] rfl)
      refine lv_if_eq (tgt := 33) hx hb dX12_castsTried_26 (of_decide_eq_true rfl) (fun c_15 => ?_) (fun c_15 => ?_)
      · have hfn := (if_pos c_15).symm.trans hfn
        refine lv_iconst (v := 0) hx hb dX12_castsTried_33 zci_0 ?_
        exact jp_8 0 H locs ls hfn hP hD hS (lv_sub hl [0, 2] rfl)
      have hfn := (if_neg c_15).symm.trans hfn
      refine lv_iconst (v := 1) hx hb dX12_castsTried_29 zci_1 ?_
      refine lv_goto (tgt := 34) hx hb dX12_castsTried_30 (of_decide_eq_true rfl) ?_
      exact jp_8 1 H locs ls hfn hP hD hS (lv_sub hl [0, 2] rfl)
  exact lp_1 _ (0, 0) s.heap [] ls hfn hP hD hS (lv_sub hl [0, 1, 2] rfl)
theorem zn_X12_costTried_X12 : ∀ w ∈ wsX120, w ∈ wsX12_costTried := fun _ h => List.mem_cons_of_mem _ (List.mem_append_right _ h)
theorem zw_X12_costTried_1172 : Cond.fieldLink RX12 84 "ShortEnoughModel" "castCost" "[I" ∈ wsX12_costTried := List.mem_of_getElem? (i := 1) (by decide +kernel)
theorem zw_X12_costTried_1173 : Cond.fieldLink RX12 62 "ShortEnoughModel" "numbers" "[I" ∈ wsX12_costTried := List.mem_of_getElem? (i := 2) (by decide +kernel)
theorem zw_X12_costTried_1174 : Cond.fieldLink RX12 59 "ShortEnoughModel" "formatCost" "[I" ∈ wsX12_costTried := List.mem_of_getElem? (i := 3) (by decide +kernel)
theorem zw_X12_costTried_1175 : Cond.fieldLink RX12 132 "ShortEnoughModel" "tried" "[I" ∈ wsX12_costTried := List.mem_of_getElem? (i := 4) (by decide +kernel)
set_option maxHeartbeats 4000000 in
set_option maxRecDepth 100000 in
theorem zf_X12_costTried (l : Launch) (dC : Nat → ClassId) (dI : Nat → Nat → Nat) (h0 : Nat) (a0 : Nat → Nat) (b0 : Nat → Int32) (c0 : Nat → Int64) (k1 : Nat) (f1 : Nat → Int32) (k2 : Nat) (f2 : Nat → Int32) (k3 : Nat) (f3 : Nat → Int32) (k4 : Nat) (f4 : Nat → Int32) (k5 : Nat) (f5 : Nat → Int32) (k6 : Nat) (f6 : Nat → Int32) (o : Int32) (hfn : fn_X12_costTried f1 f2 f3 f4 f5 f6 = some o) (sz : Nat) : zMi l yX12_costTried wsX12_costTried ({ frames := 2, cells := 0, slots := 0, locals := 44 }) (dC, dI) vwCl [.ref h0] [(h0, .inr (12, zO a0 b0 c0)), zVi (a0 24) k1 2 f1, zVi (a0 17) k2 2 f2, zVi (a0 20) k3 28 f3, zVi (a0 39) k4 14 f4, zVi (a0 21) k5 28 f5, zVi (a0 16) k6 8 f6] [(k1, .int), (k2, .int), (k3, .int), (k4, .int), (k5, .int), (k6, .int)] (fun r _ => r = o) [(h0, .inr (12, zO a0 b0 c0)), zVi (a0 24) k1 2 f1, zVi (a0 17) k2 2 f2, zVi (a0 20) k3 28 f3, zVi (a0 39) k4 14 f4, zVi (a0 21) k5 28 f5, zVi (a0 16) k6 8 f6] [(k1, .int), (k2, .int), (k3, .int), (k4, .int), (k5, .int), (k6, .int)] sz := by
  refine zgoi (cc := cX12_costTried) (maxL := 3) (ret := (some .int)) (C0 := RX12) (lv0 := [(0, .ref h0)]) zpl_X12 rfl rfl rfl (Nat.le_of_ble_eq_true rfl) ?_
  intro p e s m below meth c A ls Q hx hb hr hts hown hlocks hml hP hK hD hA hS hl hQ
  unfold fn_X12_costTried at hfn
  refine lv_aload_n hx hb dX12_costTried_0 rfl (lv_at hl 0 rfl) ?_
  refine va_get (D := (dC, dI)) (ci := 12) (v := .ref (a0 24)) (C := RX12) (T := TX12) (N := 67) hx hb hts zn_X12_costTried_X12 hown hK hP 0 rfl rfl 24 (of_decide_eq_true rfl) (hts (.fieldLink RX12 84 "ShortEnoughModel" "castCost" "[I") zw_X12_costTried_1172) (fun _ h9 => h9) rfl dX12_costTried_1 ?_
  refine lv_iconst (v := 0) hx hb dX12_costTried_4 zci_0 ?_
  refine va_iald hx hb hK hP 1 0 rfl rfl (zv_in (by decide +kernel)) dX12_costTried_5 ?_
  refine lv_aload_n hx hb dX12_costTried_6 rfl (lv_at hl 0 rfl) ?_
  obtain ⟨o_1, hqo_1, hfn⟩ := zb_s hfn
  refine zcVi (ci := 12) (rest := [.int (f1 (0 : Int32).toNatClampNeg)]) (pc' := 10) (ws' := [(h0, .inr (12, zO a0 b0 c0)), zVi (a0 24) k1 2 f1, zVi (a0 17) k2 2 f2, zVi (a0 20) k3 28 f3, zVi (a0 39) k4 14 f4, zVi (a0 21) k5 28 f5, zVi (a0 16) k6 8 f6]) hP hK hD hS hA ⟨hx, hb, hml, hown, hts⟩ (zf_X12_castsTried l dC dI h0 a0 b0 c0 k2 f2 k3 f3 k4 f4 k5 f5 o_1 hqo_1 s.heap.size) (cwV 0 hts gX12_costTried_X12_castsTried rfl rfl rfl zhd_X12_castsTried ⟨Nat.le_of_ble_eq_true rfl, Nat.le_of_ble_eq_true rfl⟩) [0, 2, 3, 4, 5] rfl (of_decide_eq_true rfl) [1, 2, 3, 4] rfl rfl rfl rfl hl.1 rfl (Nat.le_of_ble_eq_true rfl) dX12_costTried_7 ⟨Nat.le_of_ble_eq_true rfl, Nat.le_of_ble_eq_true rfl⟩ [some 0, none, some 1, some 2, some 3, some 4] (of_decide_eq_true rfl) (of_decide_eq_true rfl) rfl rfl rfl (fun H locs hP hD hS => ?_)
  refine lv_imul hx hb dX12_costTried_10 ?_
  refine lv_istore_n (lv' := [(1, .int ((f1 (0 : Int32).toNatClampNeg) * o_1)), (0, .ref h0)]) hx hb dX12_costTried_11 rfl hl (of_decide_eq_true rfl) rfl (fun ls hl => ?_)
  refine lv_iconst (v := 0) hx hb dX12_costTried_12 zci_0 ?_
  refine lv_istore_n (lv' := [(2, .int 0), (1, .int ((f1 (0 : Int32).toNatClampNeg) * o_1)), (0, .ref h0)]) hx hb dX12_costTried_13 rfl hl (of_decide_eq_true rfl) rfl (fun ls hl => ?_)
  obtain ⟨bd_5, ebd_5, hfn⟩ := zl_g hfn
  have lp_5 : ∀ (n : Nat) (s_5 : Int32 × Int32) (H : Heap) (locs : List Loc) (ls : Array Slot), zl bd_5 n s_5 = some o → va_P (dC, dI) vwCl [(h0, .inr (12, zO a0 b0 c0)), zVi (a0 24) k1 2 f1, zVi (a0 17) k2 2 f2, zVi (a0 20) k3 28 f3, zVi (a0 39) k4 14 f4, zVi (a0 21) k5 28 f5, zVi (a0 16) k6 8 f6] H → va_D A [(h0, .inr (12, zO a0 b0 c0)), zVi (a0 24) k1 2 f1, zVi (a0 17) k2 2 f2, zVi (a0 20) k3 28 f3, zVi (a0 39) k4 14 f4, zVi (a0 21) k5 28 f5, zVi (a0 16) k6 8 f6] → va_S A s.heap H locs → lv_has ls 3 [(2, .int s_5.2), (1, .int s_5.1), (0, .ref h0)] → W p l e (headSpec wsX12_costTried ({ frames := 2, cells := 0, slots := 0, locals := 44 })).room s m ([.ref h0] : List Value).toArray below meth c H locs 0 0 Q (F0 m 14 ls []) := by
    intro n
    induction n with
    | zero => exact fun _ _ _ _ hfn => (zl_0 hfn).elim
    | succ n ih_5 =>
      intro s_5 H locs ls hfn hP hD hS hl
      have hfn := zl_s ebd_5 hfn
      refine lv_iload_n hx hb dX12_costTried_14 rfl (lv_at hl 0 rfl) ?_
      refine lv_aload_n hx hb dX12_costTried_15 rfl (lv_at hl 2 rfl) ?_
      refine va_get (D := (dC, dI)) (ci := 12) (v := .ref (a0 17)) (C := RX12) (T := TX12) (N := 67) hx hb hts zn_X12_costTried_X12 hown hK hP 0 rfl rfl 17 (of_decide_eq_true rfl) (hts (.fieldLink RX12 62 "ShortEnoughModel" "numbers" "[I") zw_X12_costTried_1173) (fun _ h9 => h9) rfl dX12_costTried_16 ?_
      refine lv_iconst (v := 0) hx hb dX12_costTried_19 zci_0 ?_
      refine va_iald hx hb hK hP 2 1 rfl rfl (zv_in (by decide +kernel)) dX12_costTried_20 ?_
      refine lv_icmp_ge (tgt := 44) hx hb dX12_costTried_21 (of_decide_eq_true rfl) (fun c_6 => ?_) (fun c_6 => ?_)
      · have hfn := (if_pos c_6).symm.trans hfn
        refine lv_iload_n hx hb dX12_costTried_44 rfl (lv_at hl 1 rfl) ?_
        have ho := Option.some.inj hfn
        subst ho
        exact zri hx hb hr hK hP hD hS hQ rfl hlocks dX12_costTried_45
      have hfn := (if_neg c_6).symm.trans hfn
      refine lv_iload_n hx hb dX12_costTried_24 rfl (lv_at hl 1 rfl) ?_
      refine lv_aload_n hx hb dX12_costTried_25 rfl (lv_at hl 2 rfl) ?_
      refine va_get (D := (dC, dI)) (ci := 12) (v := .ref (a0 16)) (C := RX12) (T := TX12) (N := 67) hx hb hts zn_X12_costTried_X12 hown hK hP 0 rfl rfl 16 (of_decide_eq_true rfl) (hts (.fieldLink RX12 59 "ShortEnoughModel" "formatCost" "[I") zw_X12_costTried_1174) (fun _ h9 => h9) rfl dX12_costTried_26 ?_
      refine lv_aload_n hx hb dX12_costTried_29 rfl (lv_at hl 2 rfl) ?_
      refine va_get (D := (dC, dI)) (ci := 12) (v := .ref (a0 39)) (C := RX12) (T := TX12) (N := 67) hx hb hts zn_X12_costTried_X12 hown hK hP 0 rfl rfl 39 (of_decide_eq_true rfl) (hts (.fieldLink RX12 132 "ShortEnoughModel" "tried" "[I") zw_X12_costTried_1175) (fun _ h9 => h9) rfl dX12_costTried_30 ?_
      refine lv_iload_n hx hb dX12_costTried_33 rfl (lv_at hl 0 rfl) ?_
      obtain ⟨h_7, hfn⟩ := zg_s hfn
      refine va_iald hx hb hK hP 4 3 rfl rfl h_7 dX12_costTried_34 ?_
      obtain ⟨h_8, hfn⟩ := zg_s hfn
      refine va_iald hx hb hK hP 6 5 rfl rfl h_8 dX12_costTried_35 ?_
      refine lv_iadd hx hb dX12_costTried_36 ?_
      refine lv_istore_n (lv' := [(1, .int (s_5.1 + (f6 (f4 s_5.2.toNatClampNeg).toNatClampNeg))), (2, .int s_5.2), (0, .ref h0)]) hx hb dX12_costTried_37 rfl hl (of_decide_eq_true rfl) rfl (fun ls hl => ?_)
      refine lv_iinc (v := (s_5.2 + 1)) (lv' := [(2, .int (s_5.2 + 1)), (1, .int (s_5.1 + (f6 (f4 s_5.2.toNatClampNeg).toNatClampNeg))), (0, .ref h0)]) hx hb dX12_costTried_38 hl (k := 1) rfl rfl (of_decide_eq_true rfl) rfl (fun ls hl => ?_)
      refine lv_goto (tgt := 14) hx hb dX12_costTried_41 (of_decide_eq_true rfl) ?_
      exact ih_5 ((s_5.1 + (f6 (f4 s_5.2.toNatClampNeg).toNatClampNeg)), (s_5.2 + 1)) H locs ls hfn hP hD hS (lv_sub hl [0, 1, 2] rfl)
  exact lp_5 _ (((f1 (0 : Int32).toNatClampNeg) * o_1), 0) H locs ls hfn hP hD hS (lv_sub hl [0, 1, 2] rfl)
theorem zn_X12_handPasses_X12 : ∀ w ∈ wsX120, w ∈ wsX12_handPasses := fun _ h => List.mem_cons_of_mem _ (List.mem_append_right _ h)
theorem zw_X12_handPasses_1177 : Cond.fieldLink RX12 112 "ShortEnoughModel" "wideNumber" "I" ∈ wsX12_handPasses := List.mem_of_getElem? (i := 1) (by decide +kernel)
theorem zw_X12_handPasses_1178 : Cond.fieldLink RX12 128 "ShortEnoughModel" "hasHand" "Z" ∈ wsX12_handPasses := List.mem_of_getElem? (i := 2) (by decide +kernel)
theorem zw_X12_handPasses_1179 : Cond.fieldLink RX12 62 "ShortEnoughModel" "numbers" "[I" ∈ wsX12_handPasses := List.mem_of_getElem? (i := 3) (by decide +kernel)
set_option maxHeartbeats 4000000 in
set_option maxRecDepth 100000 in
theorem zf_X12_handPasses (l : Launch) (dC : Nat → ClassId) (dI : Nat → Nat → Nat) (h0 : Nat) (a0 : Nat → Nat) (b0 : Nat → Int32) (c0 : Nat → Int64) (k1 : Nat) (f1 : Nat → Int32) (k2 : Nat) (f2 : Nat → Int32) (k3 : Nat) (f3 : Nat → Int32) (k4 : Nat) (f4 : Nat → Int32) (k5 : Nat) (f5 : Nat → Int32) (k6 : Nat) (f6 : Nat → Int32) (k7 : Nat) (f7 : Nat → Int64) (k8 : Nat) (f8 : Nat → Int64) (k9 : Nat) (f9 : Nat → Int64) (k10 : Nat) (f10 : Nat → Int64) (k11 : Nat) (f11 : Nat → Int32) (k12 : Nat) (f12 : Nat → Int64) (k13 : Nat) (f13 : Nat → Int32) (k14 : Nat) (f14 : Nat → Int32) (o : Int32 × Int32 × Int32 × Int32 × (Nat → Int32) × (Nat → Int64) × (Nat → Int64) × (Nat → Int64)) (hfn : fn_X12_handPasses (c0 34) (b0 38) (b0 41) (b0 42) f1 f2 f3 f4 f5 f6 f7 f8 f9 f10 f11 f12 f13 f14 = some o) (sz : Nat) : zMi l yX12_handPasses wsX12_handPasses ({ frames := 5, cells := 0, slots := 0, locals := 134 }) (dC, dI) vwCl [.ref h0] [(h0, .inr (12, zO a0 b0 c0)), zVi (a0 17) k1 2 f1, zVi (a0 37) k2 14 f2, zVi (a0 39) k3 14 f3, zVi (a0 19) k4 28 f4, zVi (a0 20) k5 28 f5, zVi (a0 21) k6 28 f6, zVl (a0 31) k7 14 f7, zVl (a0 22) k8 28 f8, zVl (a0 23) k9 28 f9, zVl (a0 32) k10 14 f10, zVi (a0 14) k11 8 f11, zVl (a0 40) k12 14 f12, zVi (a0 15) k13 8 f13, zVi (a0 26) k14 28 f14] [(k1, .int), (k2, .int), (k3, .int), (k4, .int), (k5, .int), (k6, .int), (k7, .long), (k8, .long), (k9, .long), (k10, .long), (k11, .int), (k12, .long), (k13, .int), (k14, .int)] (fun r _ => r = o.1 ∧ narrow .boolean (.int o.1) = .int o.1) [(h0, .inr (12, zO a0 (zI (zI (zI b0 33 o.2.1) 41 o.2.2.1) 42 o.2.2.2.1) c0)), zVi (a0 17) k1 2 f1, zVi (a0 37) k2 14 f2, zVi (a0 39) k3 14 o.2.2.2.2.1, zVi (a0 19) k4 28 f4, zVi (a0 20) k5 28 f5, zVi (a0 21) k6 28 f6, zVl (a0 31) k7 14 o.2.2.2.2.2.1, zVl (a0 22) k8 28 f8, zVl (a0 23) k9 28 f9, zVl (a0 32) k10 14 o.2.2.2.2.2.2.1, zVi (a0 14) k11 8 f11, zVl (a0 40) k12 14 o.2.2.2.2.2.2.2, zVi (a0 15) k13 8 f13, zVi (a0 26) k14 28 f14] [(k1, .int), (k2, .int), (k3, .int), (k4, .int), (k5, .int), (k6, .int), (k7, .long), (k8, .long), (k9, .long), (k10, .long), (k11, .int), (k12, .long), (k13, .int), (k14, .int)] sz := by
  refine zgoi (cc := cX12_handPasses) (maxL := 1) (ret := (some .boolean)) (C0 := RX12) (lv0 := [(0, .ref h0)]) zpl_X12 rfl rfl rfl (Nat.le_of_ble_eq_true rfl) ?_
  intro p e s m below meth c A ls Q hx hb hr hts hown hlocks hml hP hK hD hA hS hl hQ
  unfold fn_X12_handPasses at hfn
  refine lv_aload_n hx hb dX12_handPasses_0 rfl (lv_at hl 0 rfl) ?_
  refine lv_iconst (v := (-1)) hx hb dX12_handPasses_1 zci_m1 ?_
  refine va_put (D := (dC, dI)) (ci := 12) (v := .int (-1)) (ty := .int) (C := RX12) (T := TX12) (N := 67) hx hb hts zn_X12_handPasses_X12 tyX12 tyX12_ok nmX12 hown hK hP hD hS 0 rfl rfl 33 (of_decide_eq_true rfl) (hts (.fieldLink RX12 112 "ShortEnoughModel" "wideNumber" "I") zw_X12_handPasses_1177) (fun _ h9 => h9) rfl (tyX12_ok 33 (of_decide_eq_true rfl)) rfl rfl (Nat.le_of_ble_eq_true rfl) dX12_handPasses_2 (fun H locs hP hD hS => ?_)
  have hP : va_P (dC, dI) vwCl [(h0, .inr (12, zO a0 (zI b0 33 (-1)) c0)), zVi (a0 17) k1 2 f1, zVi (a0 37) k2 14 f2, zVi (a0 39) k3 14 f3, zVi (a0 19) k4 28 f4, zVi (a0 20) k5 28 f5, zVi (a0 21) k6 28 f6, zVl (a0 31) k7 14 f7, zVl (a0 22) k8 28 f8, zVl (a0 23) k9 28 f9, zVl (a0 32) k10 14 f10, zVi (a0 14) k11 8 f11, zVl (a0 40) k12 14 f12, zVi (a0 15) k13 8 f13, zVi (a0 26) k14 28 f14] H := hP
  have hD := zDW hD hP rfl
  refine lv_aload_n hx hb dX12_handPasses_5 rfl (lv_at hl 0 rfl) ?_
  refine va_get (D := (dC, dI)) (ci := 12) (v := .int (b0 38)) (C := RX12) (T := TX12) (N := 67) hx hb hts zn_X12_handPasses_X12 hown hK hP 0 rfl rfl 38 (of_decide_eq_true rfl) (hts (.fieldLink RX12 128 "ShortEnoughModel" "hasHand" "Z") zw_X12_handPasses_1178) (fun _ h9 => h9) rfl dX12_handPasses_6 ?_
  refine lv_if_eq (tgt := 21) hx hb dX12_handPasses_9 (of_decide_eq_true rfl) (fun c_1 => ?_) (fun c_1 => ?_)
  · have hfn := (if_pos c_1).symm.trans hfn
    refine lv_iconst (v := 0) hx hb dX12_handPasses_21 zci_0 ?_
    have ho := Option.some.inj hfn
    subst ho
    exact zrz hx hb hr rfl hK hP hD hS hQ ⟨rfl, zB0⟩ hlocks dX12_handPasses_22
  have hfn := (if_neg c_1).symm.trans hfn
  refine lv_aload_n hx hb dX12_handPasses_12 rfl (lv_at hl 0 rfl) ?_
  refine va_get (D := (dC, dI)) (ci := 12) (v := .ref (a0 17)) (C := RX12) (T := TX12) (N := 67) hx hb hts zn_X12_handPasses_X12 hown hK hP 0 rfl rfl 17 (of_decide_eq_true rfl) (hts (.fieldLink RX12 62 "ShortEnoughModel" "numbers" "[I") zw_X12_handPasses_1179) (fun _ h9 => h9) rfl dX12_handPasses_13 ?_
  refine lv_iconst (v := 0) hx hb dX12_handPasses_16 zci_0 ?_
  refine va_iald hx hb hK hP 1 0 rfl rfl (zv_in (by decide +kernel)) dX12_handPasses_17 ?_
  refine lv_if_ne (tgt := 23) hx hb dX12_handPasses_18 (of_decide_eq_true rfl) (fun c_2 => ?_) (fun c_2 => ?_)
  · have hfn := (if_neg c_2).symm.trans hfn
    refine lv_aload_n hx hb dX12_handPasses_23 rfl (lv_at hl 0 rfl) ?_
    obtain ⟨o_3, hqo_3, hfn⟩ := zb_s hfn
    refine zcVv (ci := 12) (rest := []) (pc' := 27) (ws' := [(h0, .inr (12, zO a0 (zI b0 33 (-1)) c0)), zVi (a0 17) k1 2 f1, zVi (a0 37) k2 14 f2, zVi (a0 39) k3 14 o_3, zVi (a0 19) k4 28 f4, zVi (a0 20) k5 28 f5, zVi (a0 21) k6 28 f6, zVl (a0 31) k7 14 f7, zVl (a0 22) k8 28 f8, zVl (a0 23) k9 28 f9, zVl (a0 32) k10 14 f10, zVi (a0 14) k11 8 f11, zVl (a0 40) k12 14 f12, zVi (a0 15) k13 8 f13, zVi (a0 26) k14 28 f14]) hP hK hD hS hA ⟨hx, hb, hml, hown, hts⟩ (zf_X12_triesHand l dC dI h0 a0 (zI b0 33 (-1)) c0 k1 f1 k2 f2 k3 f3 o_3 hqo_3 H.size) (cwV 0 hts gX12_handPasses_X12_triesHand rfl rfl rfl zhd_X12_triesHand ⟨Nat.le_of_ble_eq_true rfl, Nat.le_of_ble_eq_true rfl⟩) [0, 1, 2, 3] rfl (of_decide_eq_true rfl) [0, 1, 2] rfl rfl rfl rfl hl.1 rfl (Nat.le_of_ble_eq_true rfl) dX12_handPasses_24 ⟨Nat.le_of_ble_eq_true rfl, Nat.le_of_ble_eq_true rfl⟩ [some 0, some 1, some 2, some 3] (of_decide_eq_true rfl) (of_decide_eq_true rfl) rfl rfl rfl (fun H locs hP hD hS => ?_)
    refine lv_aload_n hx hb dX12_handPasses_27 rfl (lv_at hl 0 rfl) ?_
    obtain ⟨o_7, hqo_7, hfn⟩ := zb_s hfn
    refine zcVb (ci := 12) (rest := []) (pc' := 31) (ws' := [(h0, .inr (12, zO a0 (zI (zI (zI b0 33 (-1)) 41 o_7.2.1) 42 o_7.2.2.1) c0)), zVi (a0 17) k1 2 f1, zVi (a0 37) k2 14 f2, zVi (a0 39) k3 14 o_3, zVi (a0 19) k4 28 f4, zVi (a0 20) k5 28 f5, zVi (a0 21) k6 28 f6, zVl (a0 31) k7 14 o_7.2.2.2.1, zVl (a0 22) k8 28 f8, zVl (a0 23) k9 28 f9, zVl (a0 32) k10 14 o_7.2.2.2.2.1, zVi (a0 14) k11 8 f11, zVl (a0 40) k12 14 o_7.2.2.2.2.2, zVi (a0 15) k13 8 f13, zVi (a0 26) k14 28 f14]) hP hK hD hS hA ⟨hx, hb, hml, hown, hts⟩ (zf_X12_passes l dC dI h0 a0 (zI b0 33 (-1)) c0 k1 f1 k4 f4 k5 f5 k6 f6 k7 f7 k8 f8 k9 f9 k10 f10 k3 o_3 k11 f11 k12 f12 k13 f13 k14 f14 o_7 hqo_7 H.size) (cwV 0 hts gX12_handPasses_X12_passes rfl rfl rfl zhd_X12_passes ⟨Nat.le_of_ble_eq_true rfl, Nat.le_of_ble_eq_true rfl⟩) [0, 1, 4, 5, 6, 7, 8, 9, 10, 3, 11, 12, 13, 14] rfl (of_decide_eq_true rfl) [0, 3, 4, 5, 6, 7, 8, 9, 2, 10, 11, 12, 13] rfl rfl rfl rfl hl.1 rfl (Nat.le_of_ble_eq_true rfl) dX12_handPasses_28 ⟨Nat.le_of_ble_eq_true rfl, Nat.le_of_ble_eq_true rfl⟩ [some 0, some 1, none, some 9, some 2, some 3, some 4, some 5, some 6, some 7, some 8, some 10, some 11, some 12, some 13] (of_decide_eq_true rfl) (of_decide_eq_true rfl) rfl rfl rfl (fun H locs hw_10n hP hD hS => ?_)
    have ho := Option.some.inj hfn
    subst ho
    exact zrz hx hb hr hw_10n hK hP hD hS hQ ⟨rfl, hw_10n⟩ hlocks dX12_handPasses_31
  have hfn := (if_pos c_2).symm.trans hfn
  refine lv_iconst (v := 0) hx hb dX12_handPasses_21 zci_0 ?_
  have ho := Option.some.inj hfn
  subst ho
  exact zrz hx hb hr rfl hK hP hD hS hQ ⟨rfl, zB0⟩ hlocks dX12_handPasses_22
theorem zn_X12_chosen_X12 : ∀ w ∈ wsX120, w ∈ wsX12_chosen := fun _ h => List.mem_cons_of_mem _ (List.mem_append_right _ h)
theorem zw_X12_chosen_1181 : Cond.fieldLink RX12 128 "ShortEnoughModel" "hasHand" "Z" ∈ wsX12_chosen := List.mem_of_getElem? (i := 1) (by decide +kernel)
theorem zw_X12_chosen_1182 : Cond.fieldLink RX12 125 "ShortEnoughModel" "hand" "[I" ∈ wsX12_chosen := List.mem_of_getElem? (i := 2) (by decide +kernel)
set_option maxHeartbeats 4000000 in
set_option maxRecDepth 100000 in
theorem zf_X12_chosen (l : Launch) (dC : Nat → ClassId) (dI : Nat → Nat → Nat) (h0 : Nat) (p1 : Int32) (a0 : Nat → Nat) (b0 : Nat → Int32) (c0 : Nat → Int64) (k1 : Nat) (f1 : Nat → Int32) (k2 : Nat) (f2 : Nat → Int32) (o : Int32) (hfn : fn_X12_chosen p1 (b0 38) f1 f2 = some o) (sz : Nat) : zMi l yX12_chosen wsX12_chosen ({ frames := 2, cells := 0, slots := 0, locals := 46 }) (dC, dI) vwCl [.ref h0, .int p1] [(h0, .inr (12, zO a0 b0 c0)), zVi (a0 17) k1 2 f1, zVi (a0 37) k2 14 f2] [(k1, .int), (k2, .int)] (fun r _ => r = o) [(h0, .inr (12, zO a0 b0 c0)), zVi (a0 17) k1 2 f1, zVi (a0 37) k2 14 f2] [(k1, .int), (k2, .int)] sz := by
  refine zgoi (cc := cX12_chosen) (maxL := 2) (ret := (some .int)) (C0 := RX12) (lv0 := [(0, .ref h0), (1, .int p1)]) zpl_X12 rfl rfl rfl (Nat.le_of_ble_eq_true rfl) ?_
  intro p e s m below meth c A ls Q hx hb hr hts hown hlocks hml hP hK hD hA hS hl hQ
  unfold fn_X12_chosen at hfn
  refine lv_aload_n hx hb dX12_chosen_0 rfl (lv_at hl 0 rfl) ?_
  refine va_get (D := (dC, dI)) (ci := 12) (v := .int (b0 38)) (C := RX12) (T := TX12) (N := 67) hx hb hts zn_X12_chosen_X12 hown hK hP 0 rfl rfl 38 (of_decide_eq_true rfl) (hts (.fieldLink RX12 128 "ShortEnoughModel" "hasHand" "Z") zw_X12_chosen_1181) (fun _ h9 => h9) rfl dX12_chosen_1 ?_
  refine lv_if_eq (tgt := 24) hx hb dX12_chosen_4 (of_decide_eq_true rfl) (fun c_1 => ?_) (fun c_1 => ?_)
  · have hfn := (if_pos c_1).symm.trans hfn
    refine lv_iconst (v := (-1)) hx hb dX12_chosen_24 zci_m1 ?_
    have ho := Option.some.inj hfn
    subst ho
    exact zri hx hb hr hK hP hD hS hQ rfl hlocks dX12_chosen_25
  have hfn := (if_neg c_1).symm.trans hfn
  refine lv_aload_n hx hb dX12_chosen_7 rfl (lv_at hl 0 rfl) ?_
  refine lv_iload_n hx hb dX12_chosen_8 rfl (lv_at hl 1 rfl) ?_
  obtain ⟨o_2, hqo_2, hfn⟩ := zb_s hfn
  refine zcVb (ci := 12) (rest := []) (pc' := 12) (ws' := [(h0, .inr (12, zO a0 b0 c0)), zVi (a0 17) k1 2 f1, zVi (a0 37) k2 14 f2]) hP hK hD hS hA ⟨hx, hb, hml, hown, hts⟩ (zf_X12_isNumber l dC dI h0 p1 a0 b0 c0 k1 f1 o_2 hqo_2 s.heap.size) (cwV 1 hts gX12_chosen_X12_isNumber rfl rfl rfl zhd_X12_isNumber ⟨Nat.le_of_ble_eq_true rfl, Nat.le_of_ble_eq_true rfl⟩) [0, 1] rfl (of_decide_eq_true rfl) [0] rfl rfl rfl rfl hl.1 rfl (Nat.le_of_ble_eq_true rfl) dX12_chosen_9 ⟨Nat.le_of_ble_eq_true rfl, Nat.le_of_ble_eq_true rfl⟩ [some 0, some 1] (of_decide_eq_true rfl) (of_decide_eq_true rfl) rfl rfl rfl (fun H locs hw_5n hP hD hS => ?_)
  refine lv_if_eq (tgt := 24) hx hb dX12_chosen_12 (of_decide_eq_true rfl) (fun c_6 => ?_) (fun c_6 => ?_)
  · have hfn := (if_pos c_6).symm.trans hfn
    refine lv_iconst (v := (-1)) hx hb dX12_chosen_24 zci_m1 ?_
    have ho := Option.some.inj hfn
    subst ho
    exact zri hx hb hr hK hP hD hS hQ rfl hlocks dX12_chosen_25
  have hfn := (if_neg c_6).symm.trans hfn
  refine lv_aload_n hx hb dX12_chosen_15 rfl (lv_at hl 0 rfl) ?_
  refine va_get (D := (dC, dI)) (ci := 12) (v := .ref (a0 37)) (C := RX12) (T := TX12) (N := 67) hx hb hts zn_X12_chosen_X12 hown hK hP 0 rfl rfl 37 (of_decide_eq_true rfl) (hts (.fieldLink RX12 125 "ShortEnoughModel" "hand" "[I") zw_X12_chosen_1182) (fun _ h9 => h9) rfl dX12_chosen_16 ?_
  refine lv_iload_n hx hb dX12_chosen_19 rfl (lv_at hl 1 rfl) ?_
  obtain ⟨h_7, hfn⟩ := zg_s hfn
  refine va_iald hx hb hK hP 2 1 rfl rfl h_7 dX12_chosen_20 ?_
  refine lv_goto (tgt := 25) hx hb dX12_chosen_21 (of_decide_eq_true rfl) ?_
  have ho := Option.some.inj hfn
  subst ho
  exact zri hx hb hr hK hP hD hS hQ rfl hlocks dX12_chosen_25
theorem zn_X12_choose_X12 : ∀ w ∈ wsX120, w ∈ wsX12_choose := fun _ h => List.mem_cons_of_mem _ (List.mem_append_right _ h)
theorem zw_X12_choose_1184 : Cond.fieldLink RX12 128 "ShortEnoughModel" "hasHand" "Z" ∈ wsX12_choose := List.mem_of_getElem? (i := 1) (by decide +kernel)
theorem zw_X12_choose_1185 : Cond.fieldLink RX12 93 "ShortEnoughModel" "groupOf" "[I" ∈ wsX12_choose := List.mem_of_getElem? (i := 2) (by decide +kernel)
theorem zw_X12_choose_1186 : Cond.fieldLink RX12 125 "ShortEnoughModel" "hand" "[I" ∈ wsX12_choose := List.mem_of_getElem? (i := 3) (by decide +kernel)
theorem zw_X12_choose_1187 : Cond.fieldLink RX12 62 "ShortEnoughModel" "numbers" "[I" ∈ wsX12_choose := List.mem_of_getElem? (i := 4) (by decide +kernel)
set_option maxHeartbeats 4000000 in
set_option maxRecDepth 100000 in
theorem zf_X12_choose (l : Launch) (dC : Nat → ClassId) (dI : Nat → Nat → Nat) (h0 : Nat) (p1 : Int32) (p2 : Int32) (a0 : Nat → Nat) (b0 : Nat → Int32) (c0 : Nat → Int64) (k1 : Nat) (f1 : Nat → Int32) (k2 : Nat) (f2 : Nat → Int32) (k3 : Nat) (f3 : Nat → Int32) (k4 : Nat) (f4 : Nat → Int32) (k5 : Nat) (f5 : Nat → Int32) (k6 : Nat) (f6 : Nat → Int32) (o : Int32 × (Nat → Int32) × (Nat → Int32)) (hfn : fn_X12_choose p1 p2 (b0 38) f1 f2 f3 f4 f5 f6 = some o) (sz : Nat) : zMi l yX12_choose wsX12_choose ({ frames := 2, cells := 0, slots := 0, locals := 46 }) (dC, dI) vwCl [.ref h0, .int p1, .int p2] [(h0, .inr (12, zO a0 b0 c0)), zVi (a0 2) k1 5 f1, zVi (a0 17) k2 2 f2, zVi (a0 12) k3 2 f3, zVi (a0 27) k4 28 f4, zVi (a0 25) k5 28 f5, zVi (a0 37) k6 14 f6] [(k1, .int), (k2, .int), (k3, .int), (k4, .int), (k5, .int), (k6, .int)] (fun r _ => r = o.1) [(h0, .inr (12, zO a0 b0 c0)), zVi (a0 2) k1 5 o.2.1, zVi (a0 17) k2 2 f2, zVi (a0 12) k3 2 f3, zVi (a0 27) k4 28 f4, zVi (a0 25) k5 28 f5, zVi (a0 37) k6 14 o.2.2] [(k1, .int), (k2, .int), (k3, .int), (k4, .int), (k5, .int), (k6, .int)] sz := by
  refine zgoi (cc := cX12_choose) (maxL := 5) (ret := (some .int)) (C0 := RX12) (lv0 := [(0, .ref h0), (1, .int p1), (2, .int p2)]) zpl_X12 rfl rfl rfl (Nat.le_of_ble_eq_true rfl) ?_
  intro p e s m below meth c A ls Q hx hb hr hts hown hlocks hml hP hK hD hA hS hl hQ
  unfold fn_X12_choose at hfn
  refine lv_aload_n hx hb dX12_choose_0 rfl (lv_at hl 0 rfl) ?_
  refine va_get (D := (dC, dI)) (ci := 12) (v := .int (b0 38)) (C := RX12) (T := TX12) (N := 67) hx hb hts zn_X12_choose_X12 hown hK hP 0 rfl rfl 38 (of_decide_eq_true rfl) (hts (.fieldLink RX12 128 "ShortEnoughModel" "hasHand" "Z") zw_X12_choose_1184) (fun _ h9 => h9) rfl dX12_choose_1 ?_
  refine lv_if_eq (tgt := 36) hx hb dX12_choose_4 (of_decide_eq_true rfl) (fun c_1 => ?_) (fun c_1 => ?_)
  · have hfn := (if_pos c_1).symm.trans hfn
    refine lv_aload_n hx hb dX12_choose_36 rfl (lv_at hl 0 rfl) ?_
    refine lv_iconst (v := 2) hx hb dX12_choose_37 zci_2 ?_
    obtain ⟨o_2, hqo_2, hfn⟩ := zb_s hfn
    refine zcVi (ci := 12) (rest := []) (pc' := 41) (ws' := [(h0, .inr (12, zO a0 b0 c0)), zVi (a0 2) k1 5 o_2.2, zVi (a0 17) k2 2 f2, zVi (a0 12) k3 2 f3, zVi (a0 27) k4 28 f4, zVi (a0 25) k5 28 f5, zVi (a0 37) k6 14 f6]) hP hK hD hS hA ⟨hx, hb, hml, hown, hts⟩ (zf_X12_refuses l dC dI h0 2 a0 b0 c0 k1 f1 o_2 hqo_2 s.heap.size) (cwV 1 hts gX12_choose_X12_refuses rfl rfl rfl zhd_X12_refuses ⟨Nat.le_of_ble_eq_true rfl, Nat.le_of_ble_eq_true rfl⟩) [0, 1] rfl (of_decide_eq_true rfl) [0] rfl rfl rfl rfl hl.1 rfl (Nat.le_of_ble_eq_true rfl) dX12_choose_38 ⟨Nat.le_of_ble_eq_true rfl, Nat.le_of_ble_eq_true rfl⟩ [some 0, some 1] (of_decide_eq_true rfl) (of_decide_eq_true rfl) rfl rfl rfl (fun H locs hP hD hS => ?_)
    have ho := Option.some.inj hfn
    subst ho
    exact zri hx hb hr hK hP hD hS hQ rfl hlocks dX12_choose_41
  have hfn := (if_neg c_1).symm.trans hfn
  refine lv_aload_n hx hb dX12_choose_7 rfl (lv_at hl 0 rfl) ?_
  refine lv_iload_n hx hb dX12_choose_8 rfl (lv_at hl 1 rfl) ?_
  obtain ⟨o_6, hqo_6, hfn⟩ := zb_s hfn
  refine zcVb (ci := 12) (rest := []) (pc' := 12) (ws' := [(h0, .inr (12, zO a0 b0 c0)), zVi (a0 2) k1 5 f1, zVi (a0 17) k2 2 f2, zVi (a0 12) k3 2 f3, zVi (a0 27) k4 28 f4, zVi (a0 25) k5 28 f5, zVi (a0 37) k6 14 f6]) hP hK hD hS hA ⟨hx, hb, hml, hown, hts⟩ (zf_X12_isNumber l dC dI h0 p1 a0 b0 c0 k2 f2 o_6 hqo_6 s.heap.size) (cwV 1 hts gX12_choose_X12_isNumber rfl rfl rfl zhd_X12_isNumber ⟨Nat.le_of_ble_eq_true rfl, Nat.le_of_ble_eq_true rfl⟩) [0, 2] rfl (of_decide_eq_true rfl) [1] rfl rfl rfl rfl hl.1 rfl (Nat.le_of_ble_eq_true rfl) dX12_choose_9 ⟨Nat.le_of_ble_eq_true rfl, Nat.le_of_ble_eq_true rfl⟩ [some 0, none, some 1] (of_decide_eq_true rfl) (of_decide_eq_true rfl) rfl rfl rfl (fun H locs hw_9n hP hD hS => ?_)
  refine lv_if_eq (tgt := 36) hx hb dX12_choose_12 (of_decide_eq_true rfl) (fun c_10 => ?_) (fun c_10 => ?_)
  · have hfn := (if_pos c_10).symm.trans hfn
    refine lv_aload_n hx hb dX12_choose_36 rfl (lv_at hl 0 rfl) ?_
    refine lv_iconst (v := 2) hx hb dX12_choose_37 zci_2 ?_
    obtain ⟨o_11, hqo_11, hfn⟩ := zb_s hfn
    refine zcVi (ci := 12) (rest := []) (pc' := 41) (ws' := [(h0, .inr (12, zO a0 b0 c0)), zVi (a0 2) k1 5 o_11.2, zVi (a0 17) k2 2 f2, zVi (a0 12) k3 2 f3, zVi (a0 27) k4 28 f4, zVi (a0 25) k5 28 f5, zVi (a0 37) k6 14 f6]) hP hK hD hS hA ⟨hx, hb, hml, hown, hts⟩ (zf_X12_refuses l dC dI h0 2 a0 b0 c0 k1 f1 o_11 hqo_11 H.size) (cwV 1 hts gX12_choose_X12_refuses rfl rfl rfl zhd_X12_refuses ⟨Nat.le_of_ble_eq_true rfl, Nat.le_of_ble_eq_true rfl⟩) [0, 1] rfl (of_decide_eq_true rfl) [0] rfl rfl rfl rfl hl.1 rfl (Nat.le_of_ble_eq_true rfl) dX12_choose_38 ⟨Nat.le_of_ble_eq_true rfl, Nat.le_of_ble_eq_true rfl⟩ [some 0, some 1] (of_decide_eq_true rfl) (of_decide_eq_true rfl) rfl rfl rfl (fun H locs hP hD hS => ?_)
    have ho := Option.some.inj hfn
    subst ho
    exact zri hx hb hr hK hP hD hS hQ rfl hlocks dX12_choose_41
  have hfn := (if_neg c_10).symm.trans hfn
  refine lv_aload_n hx hb dX12_choose_15 rfl (lv_at hl 0 rfl) ?_
  refine lv_iload_n hx hb dX12_choose_16 rfl (lv_at hl 2 rfl) ?_
  obtain ⟨o_15, hqo_15, hfn⟩ := zb_s hfn
  refine zcVb (ci := 12) (rest := []) (pc' := 20) (ws' := [(h0, .inr (12, zO a0 b0 c0)), zVi (a0 2) k1 5 f1, zVi (a0 17) k2 2 f2, zVi (a0 12) k3 2 f3, zVi (a0 27) k4 28 f4, zVi (a0 25) k5 28 f5, zVi (a0 37) k6 14 f6]) hP hK hD hS hA ⟨hx, hb, hml, hown, hts⟩ (zf_X12_isFormat l dC dI h0 p2 a0 b0 c0 k3 f3 o_15 hqo_15 H.size) (cwV 1 hts gX12_choose_X12_isFormat rfl rfl rfl zhd_X12_isFormat ⟨Nat.le_of_ble_eq_true rfl, Nat.le_of_ble_eq_true rfl⟩) [0, 3] rfl (of_decide_eq_true rfl) [2] rfl rfl rfl rfl hl.1 rfl (Nat.le_of_ble_eq_true rfl) dX12_choose_17 ⟨Nat.le_of_ble_eq_true rfl, Nat.le_of_ble_eq_true rfl⟩ [some 0, none, none, some 1] (of_decide_eq_true rfl) (of_decide_eq_true rfl) rfl rfl rfl (fun H locs hw_18n hP hD hS => ?_)
  refine lv_if_eq (tgt := 36) hx hb dX12_choose_20 (of_decide_eq_true rfl) (fun c_19 => ?_) (fun c_19 => ?_)
  · have hfn := (if_pos c_19).symm.trans hfn
    refine lv_aload_n hx hb dX12_choose_36 rfl (lv_at hl 0 rfl) ?_
    refine lv_iconst (v := 2) hx hb dX12_choose_37 zci_2 ?_
    obtain ⟨o_20, hqo_20, hfn⟩ := zb_s hfn
    refine zcVi (ci := 12) (rest := []) (pc' := 41) (ws' := [(h0, .inr (12, zO a0 b0 c0)), zVi (a0 2) k1 5 o_20.2, zVi (a0 17) k2 2 f2, zVi (a0 12) k3 2 f3, zVi (a0 27) k4 28 f4, zVi (a0 25) k5 28 f5, zVi (a0 37) k6 14 f6]) hP hK hD hS hA ⟨hx, hb, hml, hown, hts⟩ (zf_X12_refuses l dC dI h0 2 a0 b0 c0 k1 f1 o_20 hqo_20 H.size) (cwV 1 hts gX12_choose_X12_refuses rfl rfl rfl zhd_X12_refuses ⟨Nat.le_of_ble_eq_true rfl, Nat.le_of_ble_eq_true rfl⟩) [0, 1] rfl (of_decide_eq_true rfl) [0] rfl rfl rfl rfl hl.1 rfl (Nat.le_of_ble_eq_true rfl) dX12_choose_38 ⟨Nat.le_of_ble_eq_true rfl, Nat.le_of_ble_eq_true rfl⟩ [some 0, some 1] (of_decide_eq_true rfl) (of_decide_eq_true rfl) rfl rfl rfl (fun H locs hP hD hS => ?_)
    have ho := Option.some.inj hfn
    subst ho
    exact zri hx hb hr hK hP hD hS hQ rfl hlocks dX12_choose_41
  have hfn := (if_neg c_19).symm.trans hfn
  refine lv_aload_n hx hb dX12_choose_23 rfl (lv_at hl 0 rfl) ?_
  refine lv_aload_n hx hb dX12_choose_24 rfl (lv_at hl 0 rfl) ?_
  refine va_get (D := (dC, dI)) (ci := 12) (v := .ref (a0 27)) (C := RX12) (T := TX12) (N := 67) hx hb hts zn_X12_choose_X12 hown hK hP 0 rfl rfl 27 (of_decide_eq_true rfl) (hts (.fieldLink RX12 93 "ShortEnoughModel" "groupOf" "[I") zw_X12_choose_1185) (fun _ h9 => h9) rfl dX12_choose_25 ?_
  refine lv_iload_n hx hb dX12_choose_28 rfl (lv_at hl 1 rfl) ?_
  obtain ⟨h_24, hfn⟩ := zg_s hfn
  refine va_iald hx hb hK hP 4 3 rfl rfl h_24 dX12_choose_29 ?_
  obtain ⟨o_25, hqo_25, hfn⟩ := zb_s hfn
  refine zcVb (ci := 12) (rest := []) (pc' := 33) (ws' := [(h0, .inr (12, zO a0 b0 c0)), zVi (a0 2) k1 5 f1, zVi (a0 17) k2 2 f2, zVi (a0 12) k3 2 f3, zVi (a0 27) k4 28 f4, zVi (a0 25) k5 28 f5, zVi (a0 37) k6 14 f6]) hP hK hD hS hA ⟨hx, hb, hml, hown, hts⟩ (zf_X12_isFree l dC dI h0 (f4 p1.toNatClampNeg) a0 b0 c0 k2 f2 k4 f4 k5 f5 o_25 hqo_25 H.size) (cwV 1 hts gX12_choose_X12_isFree rfl rfl rfl zhd_X12_isFree ⟨Nat.le_of_ble_eq_true rfl, Nat.le_of_ble_eq_true rfl⟩) [0, 2, 4, 5] rfl (of_decide_eq_true rfl) [1, 3, 4] rfl rfl rfl rfl hl.1 rfl (Nat.le_of_ble_eq_true rfl) dX12_choose_30 ⟨Nat.le_of_ble_eq_true rfl, Nat.le_of_ble_eq_true rfl⟩ [some 0, none, some 1, none, some 2, some 3] (of_decide_eq_true rfl) (of_decide_eq_true rfl) rfl rfl rfl (fun H locs hw_28n hP hD hS => ?_)
  refine lv_if_ne (tgt := 42) hx hb dX12_choose_33 (of_decide_eq_true rfl) (fun c_29 => ?_) (fun c_29 => ?_)
  · have hfn := (if_neg c_29).symm.trans hfn
    refine lv_aload_n hx hb dX12_choose_42 rfl (lv_at hl 0 rfl) ?_
    refine va_get (D := (dC, dI)) (ci := 12) (v := .ref (a0 37)) (C := RX12) (T := TX12) (N := 67) hx hb hts zn_X12_choose_X12 hown hK hP 0 rfl rfl 37 (of_decide_eq_true rfl) (hts (.fieldLink RX12 125 "ShortEnoughModel" "hand" "[I") zw_X12_choose_1186) (fun _ h9 => h9) rfl dX12_choose_43 ?_
    refine lv_iload_n hx hb dX12_choose_46 rfl (lv_at hl 1 rfl) ?_
    obtain ⟨h_30, hfn⟩ := zg_s hfn
    refine va_iald hx hb hK hP 6 5 rfl rfl h_30 dX12_choose_47 ?_
    refine lv_istore_n (lv' := [(3, .int (f6 p1.toNatClampNeg)), (0, .ref h0), (1, .int p1), (2, .int p2)]) hx hb dX12_choose_48 rfl hl (of_decide_eq_true rfl) rfl (fun ls hl => ?_)
    refine lv_iconst (v := 0) hx hb dX12_choose_49 zci_0 ?_
    refine lv_istore (lv' := [(4, .int 0), (3, .int (f6 p1.toNatClampNeg)), (0, .ref h0), (1, .int p1), (2, .int p2)]) hx hb dX12_choose_50 hl (of_decide_eq_true rfl) rfl (fun ls hl => ?_)
    obtain ⟨bd_31, ebd_31, hfn⟩ := zl_g hfn
    have lp_31 : ∀ (n : Nat) (s_31 : Int32 × (Nat → Int32)) (H : Heap) (locs : List Loc) (ls : Array Slot), zl bd_31 n s_31 = some o → va_P (dC, dI) vwCl [(h0, .inr (12, zO a0 b0 c0)), zVi (a0 2) k1 5 f1, zVi (a0 17) k2 2 f2, zVi (a0 12) k3 2 f3, zVi (a0 27) k4 28 f4, zVi (a0 25) k5 28 f5, zVi (a0 37) k6 14 s_31.2] H → va_D A [(h0, .inr (12, zO a0 b0 c0)), zVi (a0 2) k1 5 f1, zVi (a0 17) k2 2 f2, zVi (a0 12) k3 2 f3, zVi (a0 27) k4 28 f4, zVi (a0 25) k5 28 f5, zVi (a0 37) k6 14 s_31.2] → va_S A s.heap H locs → lv_has ls 5 [(4, .int s_31.1), (3, .int (f6 p1.toNatClampNeg)), (0, .ref h0), (1, .int p1), (2, .int p2)] → W p l e (headSpec wsX12_choose ({ frames := 2, cells := 0, slots := 0, locals := 46 })).room s m ([.ref h0, .int p1, .int p2] : List Value).toArray below meth c H locs 0 0 Q (F0 m 52 ls []) := by
      intro n
      induction n with
      | zero => exact fun _ _ _ _ hfn => (zl_0 hfn).elim
      | succ n ih_31 =>
        intro s_31 H locs ls hfn hP hD hS hl
        have hfn := zl_s ebd_31 hfn
        refine lv_iload hx hb dX12_choose_52 (lv_at hl 0 rfl) ?_
        refine lv_aload_n hx hb dX12_choose_54 rfl (lv_at hl 2 rfl) ?_
        refine va_get (D := (dC, dI)) (ci := 12) (v := .ref (a0 17)) (C := RX12) (T := TX12) (N := 67) hx hb hts zn_X12_choose_X12 hown hK hP 0 rfl rfl 17 (of_decide_eq_true rfl) (hts (.fieldLink RX12 62 "ShortEnoughModel" "numbers" "[I") zw_X12_choose_1187) (fun _ h9 => h9) rfl dX12_choose_55 ?_
        refine lv_iconst (v := 0) hx hb dX12_choose_58 zci_0 ?_
        refine va_iald hx hb hK hP 2 1 rfl rfl (zv_in (by decide +kernel)) dX12_choose_59 ?_
        refine lv_icmp_ge (tgt := 103) hx hb dX12_choose_60 (of_decide_eq_true rfl) (fun c_32 => ?_) (fun c_32 => ?_)
        · have hfn := (if_pos c_32).symm.trans hfn
          refine lv_iload_n hx hb dX12_choose_103 rfl (lv_at hl 1 rfl) ?_
          have ho := Option.some.inj hfn
          subst ho
          exact zri hx hb hr hK hP hD hS hQ rfl hlocks dX12_choose_104
        have hfn := (if_neg c_32).symm.trans hfn
        refine lv_aload_n hx hb dX12_choose_63 rfl (lv_at hl 2 rfl) ?_
        refine va_get (D := (dC, dI)) (ci := 12) (v := .ref (a0 37)) (C := RX12) (T := TX12) (N := 67) hx hb hts zn_X12_choose_X12 hown hK hP 0 rfl rfl 37 (of_decide_eq_true rfl) (hts (.fieldLink RX12 125 "ShortEnoughModel" "hand" "[I") zw_X12_choose_1186) (fun _ h9 => h9) rfl dX12_choose_64 ?_
        refine lv_iload hx hb dX12_choose_67 (lv_at hl 0 rfl) ?_
        refine lv_aload_n hx hb dX12_choose_69 rfl (lv_at hl 2 rfl) ?_
        refine va_get (D := (dC, dI)) (ci := 12) (v := .ref (a0 27)) (C := RX12) (T := TX12) (N := 67) hx hb hts zn_X12_choose_X12 hown hK hP 0 rfl rfl 27 (of_decide_eq_true rfl) (hts (.fieldLink RX12 93 "ShortEnoughModel" "groupOf" "[I") zw_X12_choose_1185) (fun _ h9 => h9) rfl dX12_choose_70 ?_
        refine lv_iload hx hb dX12_choose_73 (lv_at hl 0 rfl) ?_
        obtain ⟨h_33, hfn⟩ := zg_s hfn
        refine va_iald hx hb hK hP 4 3 rfl rfl h_33 dX12_choose_75 ?_
        refine lv_aload_n hx hb dX12_choose_76 rfl (lv_at hl 2 rfl) ?_
        refine va_get (D := (dC, dI)) (ci := 12) (v := .ref (a0 27)) (C := RX12) (T := TX12) (N := 67) hx hb hts zn_X12_choose_X12 hown hK hP 0 rfl rfl 27 (of_decide_eq_true rfl) (hts (.fieldLink RX12 93 "ShortEnoughModel" "groupOf" "[I") zw_X12_choose_1185) (fun _ h9 => h9) rfl dX12_choose_77 ?_
        refine lv_iload_n hx hb dX12_choose_80 rfl (lv_at hl 3 rfl) ?_
        obtain ⟨h_34, hfn⟩ := zg_s hfn
        refine va_iald hx hb hK hP 4 3 rfl rfl h_34 dX12_choose_81 ?_
        refine lv_icmp_ne (tgt := 89) hx hb dX12_choose_82 (of_decide_eq_true rfl) (fun c_35 => ?_) (fun c_35 => ?_)
        · have hfn := (if_neg c_35).symm.trans hfn
          refine lv_aload_n hx hb dX12_choose_89 rfl (lv_at hl 2 rfl) ?_
          refine va_get (D := (dC, dI)) (ci := 12) (v := .ref (a0 37)) (C := RX12) (T := TX12) (N := 67) hx hb hts zn_X12_choose_X12 hown hK hP 0 rfl rfl 37 (of_decide_eq_true rfl) (hts (.fieldLink RX12 125 "ShortEnoughModel" "hand" "[I") zw_X12_choose_1186) (fun _ h9 => h9) rfl dX12_choose_90 ?_
          refine lv_iload hx hb dX12_choose_93 (lv_at hl 0 rfl) ?_
          obtain ⟨h_36, hfn⟩ := zg_s hfn
          refine va_iald hx hb hK hP 6 5 rfl rfl h_36 dX12_choose_95 ?_
          refine va_iast hx hb hK hP hD hS 6 5 rfl rfl h_36 dX12_choose_96 (fun H locs hP hD hS => ?_)
          obtain ⟨g_37, eg_37⟩ : ∃ g : Nat → Int32, g = (upd s_31.2 s_31.1.toNatClampNeg (s_31.2 s_31.1.toNatClampNeg)) := ⟨_, rfl⟩
          have hfn := zn_s hfn eg_37
          have hP : va_P (dC, dI) vwCl [(h0, .inr (12, zO a0 b0 c0)), zVi (a0 2) k1 5 f1, zVi (a0 17) k2 2 f2, zVi (a0 12) k3 2 f3, zVi (a0 27) k4 28 f4, zVi (a0 25) k5 28 f5, zVi (a0 37) k6 14 g_37] H := by rw [eg_37]; exact hP
          have hD : va_D A [(h0, .inr (12, zO a0 b0 c0)), zVi (a0 2) k1 5 f1, zVi (a0 17) k2 2 f2, zVi (a0 12) k3 2 f3, zVi (a0 27) k4 28 f4, zVi (a0 25) k5 28 f5, zVi (a0 37) k6 14 g_37] := by rw [eg_37]; exact hD
          refine lv_iinc (v := (s_31.1 + 1)) (lv' := [(4, .int (s_31.1 + 1)), (3, .int (f6 p1.toNatClampNeg)), (0, .ref h0), (1, .int p1), (2, .int p2)]) hx hb dX12_choose_97 hl (k := 0) rfl rfl (of_decide_eq_true rfl) rfl (fun ls hl => ?_)
          refine lv_goto (tgt := 52) hx hb dX12_choose_100 (of_decide_eq_true rfl) ?_
          exact ih_31 ((s_31.1 + 1), g_37) H locs ls hfn hP hD hS (lv_sub hl [0, 1, 2, 3, 4] rfl)
        have hfn := (if_pos c_35).symm.trans hfn
        refine lv_iload_n hx hb dX12_choose_85 rfl (lv_at hl 4 rfl) ?_
        refine lv_goto (tgt := 96) hx hb dX12_choose_86 (of_decide_eq_true rfl) ?_
        obtain ⟨h_38, hfn⟩ := zg_s hfn
        refine va_iast hx hb hK hP hD hS 6 5 rfl rfl h_38 dX12_choose_96 (fun H locs hP hD hS => ?_)
        have hP : va_P (dC, dI) vwCl [(h0, .inr (12, zO a0 b0 c0)), zVi (a0 2) k1 5 f1, zVi (a0 17) k2 2 f2, zVi (a0 12) k3 2 f3, zVi (a0 27) k4 28 f4, zVi (a0 25) k5 28 f5, zVi (a0 37) k6 14 (upd s_31.2 s_31.1.toNatClampNeg p2)] H := hP
        have hD := zDW hD hP rfl
        refine lv_iinc (v := (s_31.1 + 1)) (lv' := [(4, .int (s_31.1 + 1)), (3, .int (f6 p1.toNatClampNeg)), (0, .ref h0), (1, .int p1), (2, .int p2)]) hx hb dX12_choose_97 hl (k := 0) rfl rfl (of_decide_eq_true rfl) rfl (fun ls hl => ?_)
        refine lv_goto (tgt := 52) hx hb dX12_choose_100 (of_decide_eq_true rfl) ?_
        exact ih_31 ((s_31.1 + 1), (upd s_31.2 s_31.1.toNatClampNeg p2)) H locs ls hfn hP hD hS (lv_sub hl [0, 1, 2, 3, 4] rfl)
    exact lp_31 _ (0, f6) H locs ls hfn hP hD hS (lv_sub hl [0, 1, 2, 3, 4] rfl)
  have hfn := (if_pos c_29).symm.trans hfn
  refine lv_aload_n hx hb dX12_choose_36 rfl (lv_at hl 0 rfl) ?_
  refine lv_iconst (v := 2) hx hb dX12_choose_37 zci_2 ?_
  obtain ⟨o_39, hqo_39, hfn⟩ := zb_s hfn
  refine zcVi (ci := 12) (rest := []) (pc' := 41) (ws' := [(h0, .inr (12, zO a0 b0 c0)), zVi (a0 2) k1 5 o_39.2, zVi (a0 17) k2 2 f2, zVi (a0 12) k3 2 f3, zVi (a0 27) k4 28 f4, zVi (a0 25) k5 28 f5, zVi (a0 37) k6 14 f6]) hP hK hD hS hA ⟨hx, hb, hml, hown, hts⟩ (zf_X12_refuses l dC dI h0 2 a0 b0 c0 k1 f1 o_39 hqo_39 H.size) (cwV 1 hts gX12_choose_X12_refuses rfl rfl rfl zhd_X12_refuses ⟨Nat.le_of_ble_eq_true rfl, Nat.le_of_ble_eq_true rfl⟩) [0, 1] rfl (of_decide_eq_true rfl) [0] rfl rfl rfl rfl hl.1 rfl (Nat.le_of_ble_eq_true rfl) dX12_choose_38 ⟨Nat.le_of_ble_eq_true rfl, Nat.le_of_ble_eq_true rfl⟩ [some 0, some 1] (of_decide_eq_true rfl) (of_decide_eq_true rfl) rfl rfl rfl (fun H locs hP hD hS => ?_)
  have ho := Option.some.inj hfn
  subst ho
  exact zri hx hb hr hK hP hD hS hQ rfl hlocks dX12_choose_41
theorem zn_X12_isThere_X12 : ∀ w ∈ wsX120, w ∈ wsX12_isThere := fun _ h => List.mem_cons_of_mem _ (List.mem_append_right _ h)
theorem zw_X12_isThere_1189 : Cond.fieldLink RX12 128 "ShortEnoughModel" "hasHand" "Z" ∈ wsX12_isThere := List.mem_of_getElem? (i := 1) (by decide +kernel)
theorem zw_X12_isThere_1190 : Cond.fieldLink RX12 62 "ShortEnoughModel" "numbers" "[I" ∈ wsX12_isThere := List.mem_of_getElem? (i := 2) (by decide +kernel)
set_option maxHeartbeats 4000000 in
set_option maxRecDepth 100000 in
theorem zf_X12_isThere (l : Launch) (dC : Nat → ClassId) (dI : Nat → Nat → Nat) (h0 : Nat) (a0 : Nat → Nat) (b0 : Nat → Int32) (c0 : Nat → Int64) (k1 : Nat) (f1 : Nat → Int32) (o : Int32) (hfn : fn_X12_isThere (b0 38) f1 = some o) (sz : Nat) : zMi l yX12_isThere wsX12_isThere ({ frames := 0, cells := 0, slots := 0, locals := 0 }) (dC, dI) vwCl [.ref h0] [(h0, .inr (12, zO a0 b0 c0)), zVi (a0 17) k1 2 f1] [(k1, .int)] (fun r _ => r = o ∧ narrow .boolean (.int o) = .int o) [(h0, .inr (12, zO a0 b0 c0)), zVi (a0 17) k1 2 f1] [(k1, .int)] sz := by
  refine zgoi (cc := cX12_isThere) (maxL := 1) (ret := (some .boolean)) (C0 := RX12) (lv0 := [(0, .ref h0)]) zpl_X12 rfl rfl rfl (Nat.le_of_ble_eq_true rfl) ?_
  intro p e s m below meth c A ls Q hx hb hr hts hown hlocks hml hP hK hD hA hS hl hQ
  unfold fn_X12_isThere at hfn
  refine lv_aload_n hx hb dX12_isThere_0 rfl (lv_at hl 0 rfl) ?_
  refine va_get (D := (dC, dI)) (ci := 12) (v := .int (b0 38)) (C := RX12) (T := TX12) (N := 67) hx hb hts zn_X12_isThere_X12 hown hK hP 0 rfl rfl 38 (of_decide_eq_true rfl) (hts (.fieldLink RX12 128 "ShortEnoughModel" "hasHand" "Z") zw_X12_isThere_1189) (fun _ h9 => h9) rfl dX12_isThere_1 ?_
  refine lv_if_eq (tgt := 20) hx hb dX12_isThere_4 (of_decide_eq_true rfl) (fun c_1 => ?_) (fun c_1 => ?_)
  · have hfn := (if_pos c_1).symm.trans hfn
    refine lv_iconst (v := 0) hx hb dX12_isThere_20 zci_0 ?_
    have ho := Option.some.inj hfn
    subst ho
    exact zrz hx hb hr rfl hK hP hD hS hQ ⟨rfl, zB0⟩ hlocks dX12_isThere_21
  have hfn := (if_neg c_1).symm.trans hfn
  refine lv_aload_n hx hb dX12_isThere_7 rfl (lv_at hl 0 rfl) ?_
  refine va_get (D := (dC, dI)) (ci := 12) (v := .ref (a0 17)) (C := RX12) (T := TX12) (N := 67) hx hb hts zn_X12_isThere_X12 hown hK hP 0 rfl rfl 17 (of_decide_eq_true rfl) (hts (.fieldLink RX12 62 "ShortEnoughModel" "numbers" "[I") zw_X12_isThere_1190) (fun _ h9 => h9) rfl dX12_isThere_8 ?_
  refine lv_iconst (v := 0) hx hb dX12_isThere_11 zci_0 ?_
  refine va_iald hx hb hK hP 1 0 rfl rfl (zv_in (by decide +kernel)) dX12_isThere_12 ?_
  refine lv_if_le (tgt := 20) hx hb dX12_isThere_13 (of_decide_eq_true rfl) (fun c_2 => ?_) (fun c_2 => ?_)
  · have hfn := (if_pos c_2).symm.trans hfn
    refine lv_iconst (v := 0) hx hb dX12_isThere_20 zci_0 ?_
    have ho := Option.some.inj hfn
    subst ho
    exact zrz hx hb hr rfl hK hP hD hS hQ ⟨rfl, zB0⟩ hlocks dX12_isThere_21
  have hfn := (if_neg c_2).symm.trans hfn
  refine lv_iconst (v := 1) hx hb dX12_isThere_16 zci_1 ?_
  refine lv_goto (tgt := 21) hx hb dX12_isThere_17 (of_decide_eq_true rfl) ?_
  have ho := Option.some.inj hfn
  subst ho
  exact zrz hx hb hr rfl hK hP hD hS hQ ⟨rfl, zB1⟩ hlocks dX12_isThere_21

set_option maxHeartbeats 4000000 in
set_option maxRecDepth 100000 in
theorem zf_X12_cost (l : Launch) (dC : Nat → ClassId) (dI : Nat → Nat → Nat) (h0 : Nat) (a0 : Nat → Nat) (b0 : Nat → Int32) (c0 : Nat → Int64) (k1 : Nat) (f1 : Nat → Int32) (k2 : Nat) (f2 : Nat → Int32) (k3 : Nat) (f3 : Nat → Int32) (k4 : Nat) (f4 : Nat → Int32) (k5 : Nat) (f5 : Nat → Int32) (k6 : Nat) (f6 : Nat → Int32) (k7 : Nat) (f7 : Nat → Int32) (o : Int32 × (Nat → Int32)) (hfn : fn_X12_cost (b0 38) f1 f2 f3 f4 f5 f6 f7 = some o) (sz : Nat) : zMi l yX12_cost wsX12_cost ({ frames := 3, cells := 0, slots := 0, locals := 66 }) (dC, dI) vwCl [.ref h0] [(h0, .inr (12, zO a0 b0 c0)), zVi (a0 17) k1 2 f1, zVi (a0 37) k2 14 f2, zVi (a0 39) k3 14 f3, zVi (a0 24) k4 2 f4, zVi (a0 20) k5 28 f5, zVi (a0 21) k6 28 f6, zVi (a0 16) k7 8 f7] [(k1, .int), (k2, .int), (k3, .int), (k4, .int), (k5, .int), (k6, .int), (k7, .int)] (fun r _ => r = o.1) [(h0, .inr (12, zO a0 b0 c0)), zVi (a0 17) k1 2 f1, zVi (a0 37) k2 14 f2, zVi (a0 39) k3 14 o.2, zVi (a0 24) k4 2 f4, zVi (a0 20) k5 28 f5, zVi (a0 21) k6 28 f6, zVi (a0 16) k7 8 f7] [(k1, .int), (k2, .int), (k3, .int), (k4, .int), (k5, .int), (k6, .int), (k7, .int)] sz := by
  refine zgoi (cc := cX12_cost) (maxL := 1) (ret := (some .int)) (C0 := RX12) (lv0 := [(0, .ref h0)]) zpl_X12 rfl rfl rfl (Nat.le_of_ble_eq_true rfl) ?_
  intro p e s m below meth c A ls Q hx hb hr hts hown hlocks hml hP hK hD hA hS hl hQ
  unfold fn_X12_cost at hfn
  refine lv_aload_n hx hb dX12_cost_0 rfl (lv_at hl 0 rfl) ?_
  obtain ⟨o_1, hqo_1, hfn⟩ := zb_s hfn
  refine zcVb (ci := 12) (rest := []) (pc' := 4) (ws' := [(h0, .inr (12, zO a0 b0 c0)), zVi (a0 17) k1 2 f1, zVi (a0 37) k2 14 f2, zVi (a0 39) k3 14 f3, zVi (a0 24) k4 2 f4, zVi (a0 20) k5 28 f5, zVi (a0 21) k6 28 f6, zVi (a0 16) k7 8 f7]) hP hK hD hS hA ⟨hx, hb, hml, hown, hts⟩ (zf_X12_isThere l dC dI h0 a0 b0 c0 k1 f1 o_1 hqo_1 s.heap.size) (cwV 0 hts gX12_cost_X12_isThere rfl rfl rfl zhd_X12_isThere ⟨Nat.le_of_ble_eq_true rfl, Nat.le_of_ble_eq_true rfl⟩) [0, 1] rfl (of_decide_eq_true rfl) [0] rfl rfl rfl rfl hl.1 rfl (Nat.le_of_ble_eq_true rfl) dX12_cost_1 ⟨Nat.le_of_ble_eq_true rfl, Nat.le_of_ble_eq_true rfl⟩ [some 0, some 1] (of_decide_eq_true rfl) (of_decide_eq_true rfl) rfl rfl rfl (fun H locs hw_4n hP hD hS => ?_)
  refine lv_if_ne (tgt := 9) hx hb dX12_cost_4 (of_decide_eq_true rfl) (fun c_5 => ?_) (fun c_5 => ?_)
  · have hfn := (if_neg c_5).symm.trans hfn
    refine lv_aload_n hx hb dX12_cost_9 rfl (lv_at hl 0 rfl) ?_
    obtain ⟨o_6, hqo_6, hfn⟩ := zb_s hfn
    refine zcVv (ci := 12) (rest := []) (pc' := 13) (ws' := [(h0, .inr (12, zO a0 b0 c0)), zVi (a0 17) k1 2 f1, zVi (a0 37) k2 14 f2, zVi (a0 39) k3 14 o_6, zVi (a0 24) k4 2 f4, zVi (a0 20) k5 28 f5, zVi (a0 21) k6 28 f6, zVi (a0 16) k7 8 f7]) hP hK hD hS hA ⟨hx, hb, hml, hown, hts⟩ (zf_X12_triesHand l dC dI h0 a0 b0 c0 k1 f1 k2 f2 k3 f3 o_6 hqo_6 H.size) (cwV 0 hts gX12_cost_X12_triesHand rfl rfl rfl zhd_X12_triesHand ⟨Nat.le_of_ble_eq_true rfl, Nat.le_of_ble_eq_true rfl⟩) [0, 1, 2, 3] rfl (of_decide_eq_true rfl) [0, 1, 2] rfl rfl rfl rfl hl.1 rfl (Nat.le_of_ble_eq_true rfl) dX12_cost_10 ⟨Nat.le_of_ble_eq_true rfl, Nat.le_of_ble_eq_true rfl⟩ [some 0, some 1, some 2, some 3] (of_decide_eq_true rfl) (of_decide_eq_true rfl) rfl rfl rfl (fun H locs hP hD hS => ?_)
    refine lv_aload_n hx hb dX12_cost_13 rfl (lv_at hl 0 rfl) ?_
    obtain ⟨o_10, hqo_10, hfn⟩ := zb_s hfn
    refine zcVi (ci := 12) (rest := []) (pc' := 17) (ws' := [(h0, .inr (12, zO a0 b0 c0)), zVi (a0 17) k1 2 f1, zVi (a0 37) k2 14 f2, zVi (a0 39) k3 14 o_6, zVi (a0 24) k4 2 f4, zVi (a0 20) k5 28 f5, zVi (a0 21) k6 28 f6, zVi (a0 16) k7 8 f7]) hP hK hD hS hA ⟨hx, hb, hml, hown, hts⟩ (zf_X12_costTried l dC dI h0 a0 b0 c0 k4 f4 k1 f1 k5 f5 k3 o_6 k6 f6 k7 f7 o_10 hqo_10 H.size) (cwV 0 hts gX12_cost_X12_costTried rfl rfl rfl zhd_X12_costTried ⟨Nat.le_of_ble_eq_true rfl, Nat.le_of_ble_eq_true rfl⟩) [0, 4, 1, 5, 3, 6, 7] rfl (of_decide_eq_true rfl) [3, 0, 4, 2, 5, 6] rfl rfl rfl rfl hl.1 rfl (Nat.le_of_ble_eq_true rfl) dX12_cost_14 ⟨Nat.le_of_ble_eq_true rfl, Nat.le_of_ble_eq_true rfl⟩ [some 0, some 2, none, some 4, some 1, some 3, some 5, some 6] (of_decide_eq_true rfl) (of_decide_eq_true rfl) rfl rfl rfl (fun H locs hP hD hS => ?_)
    have ho := Option.some.inj hfn
    subst ho
    exact zri hx hb hr hK hP hD hS hQ rfl hlocks dX12_cost_17
  have hfn := (if_pos c_5).symm.trans hfn
  refine lv_iconst (v := (-1)) hx hb dX12_cost_7 zci_m1 ?_
  have ho := Option.some.inj hfn
  subst ho
  exact zri hx hb hr hK hP hD hS hQ rfl hlocks dX12_cost_8

set_option maxHeartbeats 4000000 in
set_option maxRecDepth 100000 in
theorem zf_X12_casts (l : Launch) (dC : Nat → ClassId) (dI : Nat → Nat → Nat) (h0 : Nat) (a0 : Nat → Nat) (b0 : Nat → Int32) (c0 : Nat → Int64) (k1 : Nat) (f1 : Nat → Int32) (k2 : Nat) (f2 : Nat → Int32) (k3 : Nat) (f3 : Nat → Int32) (k4 : Nat) (f4 : Nat → Int32) (k5 : Nat) (f5 : Nat → Int32) (o : Int32 × (Nat → Int32)) (hfn : fn_X12_casts (b0 38) f1 f2 f3 f4 f5 = some o) (sz : Nat) : zMi l yX12_casts wsX12_casts ({ frames := 2, cells := 0, slots := 0, locals := 44 }) (dC, dI) vwCl [.ref h0] [(h0, .inr (12, zO a0 b0 c0)), zVi (a0 17) k1 2 f1, zVi (a0 37) k2 14 f2, zVi (a0 39) k3 14 f3, zVi (a0 20) k4 28 f4, zVi (a0 21) k5 28 f5] [(k1, .int), (k2, .int), (k3, .int), (k4, .int), (k5, .int)] (fun r _ => r = o.1) [(h0, .inr (12, zO a0 b0 c0)), zVi (a0 17) k1 2 f1, zVi (a0 37) k2 14 f2, zVi (a0 39) k3 14 o.2, zVi (a0 20) k4 28 f4, zVi (a0 21) k5 28 f5] [(k1, .int), (k2, .int), (k3, .int), (k4, .int), (k5, .int)] sz := by
  refine zgoi (cc := cX12_casts) (maxL := 1) (ret := (some .int)) (C0 := RX12) (lv0 := [(0, .ref h0)]) zpl_X12 rfl rfl rfl (Nat.le_of_ble_eq_true rfl) ?_
  intro p e s m below meth c A ls Q hx hb hr hts hown hlocks hml hP hK hD hA hS hl hQ
  unfold fn_X12_casts at hfn
  refine lv_aload_n hx hb dX12_casts_0 rfl (lv_at hl 0 rfl) ?_
  obtain ⟨o_1, hqo_1, hfn⟩ := zb_s hfn
  refine zcVb (ci := 12) (rest := []) (pc' := 4) (ws' := [(h0, .inr (12, zO a0 b0 c0)), zVi (a0 17) k1 2 f1, zVi (a0 37) k2 14 f2, zVi (a0 39) k3 14 f3, zVi (a0 20) k4 28 f4, zVi (a0 21) k5 28 f5]) hP hK hD hS hA ⟨hx, hb, hml, hown, hts⟩ (zf_X12_isThere l dC dI h0 a0 b0 c0 k1 f1 o_1 hqo_1 s.heap.size) (cwV 0 hts gX12_casts_X12_isThere rfl rfl rfl zhd_X12_isThere ⟨Nat.le_of_ble_eq_true rfl, Nat.le_of_ble_eq_true rfl⟩) [0, 1] rfl (of_decide_eq_true rfl) [0] rfl rfl rfl rfl hl.1 rfl (Nat.le_of_ble_eq_true rfl) dX12_casts_1 ⟨Nat.le_of_ble_eq_true rfl, Nat.le_of_ble_eq_true rfl⟩ [some 0, some 1] (of_decide_eq_true rfl) (of_decide_eq_true rfl) rfl rfl rfl (fun H locs hw_4n hP hD hS => ?_)
  refine lv_if_ne (tgt := 9) hx hb dX12_casts_4 (of_decide_eq_true rfl) (fun c_5 => ?_) (fun c_5 => ?_)
  · have hfn := (if_neg c_5).symm.trans hfn
    refine lv_aload_n hx hb dX12_casts_9 rfl (lv_at hl 0 rfl) ?_
    obtain ⟨o_6, hqo_6, hfn⟩ := zb_s hfn
    refine zcVv (ci := 12) (rest := []) (pc' := 13) (ws' := [(h0, .inr (12, zO a0 b0 c0)), zVi (a0 17) k1 2 f1, zVi (a0 37) k2 14 f2, zVi (a0 39) k3 14 o_6, zVi (a0 20) k4 28 f4, zVi (a0 21) k5 28 f5]) hP hK hD hS hA ⟨hx, hb, hml, hown, hts⟩ (zf_X12_triesHand l dC dI h0 a0 b0 c0 k1 f1 k2 f2 k3 f3 o_6 hqo_6 H.size) (cwV 0 hts gX12_casts_X12_triesHand rfl rfl rfl zhd_X12_triesHand ⟨Nat.le_of_ble_eq_true rfl, Nat.le_of_ble_eq_true rfl⟩) [0, 1, 2, 3] rfl (of_decide_eq_true rfl) [0, 1, 2] rfl rfl rfl rfl hl.1 rfl (Nat.le_of_ble_eq_true rfl) dX12_casts_10 ⟨Nat.le_of_ble_eq_true rfl, Nat.le_of_ble_eq_true rfl⟩ [some 0, some 1, some 2, some 3] (of_decide_eq_true rfl) (of_decide_eq_true rfl) rfl rfl rfl (fun H locs hP hD hS => ?_)
    refine lv_aload_n hx hb dX12_casts_13 rfl (lv_at hl 0 rfl) ?_
    obtain ⟨o_10, hqo_10, hfn⟩ := zb_s hfn
    refine zcVi (ci := 12) (rest := []) (pc' := 17) (ws' := [(h0, .inr (12, zO a0 b0 c0)), zVi (a0 17) k1 2 f1, zVi (a0 37) k2 14 f2, zVi (a0 39) k3 14 o_6, zVi (a0 20) k4 28 f4, zVi (a0 21) k5 28 f5]) hP hK hD hS hA ⟨hx, hb, hml, hown, hts⟩ (zf_X12_castsTried l dC dI h0 a0 b0 c0 k1 f1 k4 f4 k3 o_6 k5 f5 o_10 hqo_10 H.size) (cwV 0 hts gX12_casts_X12_castsTried rfl rfl rfl zhd_X12_castsTried ⟨Nat.le_of_ble_eq_true rfl, Nat.le_of_ble_eq_true rfl⟩) [0, 1, 4, 3, 5] rfl (of_decide_eq_true rfl) [0, 3, 2, 4] rfl rfl rfl rfl hl.1 rfl (Nat.le_of_ble_eq_true rfl) dX12_casts_14 ⟨Nat.le_of_ble_eq_true rfl, Nat.le_of_ble_eq_true rfl⟩ [some 0, some 1, none, some 3, some 2, some 4] (of_decide_eq_true rfl) (of_decide_eq_true rfl) rfl rfl rfl (fun H locs hP hD hS => ?_)
    have ho := Option.some.inj hfn
    subst ho
    exact zri hx hb hr hK hP hD hS hQ rfl hlocks dX12_casts_17
  have hfn := (if_pos c_5).symm.trans hfn
  refine lv_iconst (v := (-1)) hx hb dX12_casts_7 zci_m1 ?_
  have ho := Option.some.inj hfn
  subst ho
  exact zri hx hb hr hK hP hD hS hQ rfl hlocks dX12_casts_8
theorem zn_X12_fails_X12 : ∀ w ∈ wsX120, w ∈ wsX12_fails := fun _ h => List.mem_cons_of_mem _ (List.mem_append_right _ h)
theorem zw_X12_fails_1192 : Cond.fieldLink RX12 138 "ShortEnoughModel" "failsAt" "I" ∈ wsX12_fails := List.mem_of_getElem? (i := 1) (by decide +kernel)
set_option maxHeartbeats 4000000 in
set_option maxRecDepth 100000 in
theorem zf_X12_fails (l : Launch) (dC : Nat → ClassId) (dI : Nat → Nat → Nat) (h0 : Nat) (a0 : Nat → Nat) (b0 : Nat → Int32) (c0 : Nat → Int64) (k1 : Nat) (f1 : Nat → Int32) (k2 : Nat) (f2 : Nat → Int32) (k3 : Nat) (f3 : Nat → Int32) (k4 : Nat) (f4 : Nat → Int32) (k5 : Nat) (f5 : Nat → Int32) (k6 : Nat) (f6 : Nat → Int32) (k7 : Nat) (f7 : Nat → Int64) (k8 : Nat) (f8 : Nat → Int64) (k9 : Nat) (f9 : Nat → Int64) (k10 : Nat) (f10 : Nat → Int64) (k11 : Nat) (f11 : Nat → Int32) (k12 : Nat) (f12 : Nat → Int64) (k13 : Nat) (f13 : Nat → Int32) (k14 : Nat) (f14 : Nat → Int32) (o : Int32 × Int32 × Int32 × Int32 × (Nat → Int32) × (Nat → Int64) × (Nat → Int64) × (Nat → Int64)) (hfn : fn_X12_fails (b0 33) (c0 34) (b0 38) (b0 41) (b0 42) f1 f2 f3 f4 f5 f6 f7 f8 f9 f10 f11 f12 f13 f14 = some o) (sz : Nat) : zMi l yX12_fails wsX12_fails ({ frames := 6, cells := 0, slots := 0, locals := 154 }) (dC, dI) vwCl [.ref h0] [(h0, .inr (12, zO a0 b0 c0)), zVi (a0 17) k1 2 f1, zVi (a0 37) k2 14 f2, zVi (a0 39) k3 14 f3, zVi (a0 19) k4 28 f4, zVi (a0 20) k5 28 f5, zVi (a0 21) k6 28 f6, zVl (a0 31) k7 14 f7, zVl (a0 22) k8 28 f8, zVl (a0 23) k9 28 f9, zVl (a0 32) k10 14 f10, zVi (a0 14) k11 8 f11, zVl (a0 40) k12 14 f12, zVi (a0 15) k13 8 f13, zVi (a0 26) k14 28 f14] [(k1, .int), (k2, .int), (k3, .int), (k4, .int), (k5, .int), (k6, .int), (k7, .long), (k8, .long), (k9, .long), (k10, .long), (k11, .int), (k12, .long), (k13, .int), (k14, .int)] (fun r _ => r = o.1) [(h0, .inr (12, zO a0 (zI (zI (zI b0 33 o.2.1) 41 o.2.2.1) 42 o.2.2.2.1) c0)), zVi (a0 17) k1 2 f1, zVi (a0 37) k2 14 f2, zVi (a0 39) k3 14 o.2.2.2.2.1, zVi (a0 19) k4 28 f4, zVi (a0 20) k5 28 f5, zVi (a0 21) k6 28 f6, zVl (a0 31) k7 14 o.2.2.2.2.2.1, zVl (a0 22) k8 28 f8, zVl (a0 23) k9 28 f9, zVl (a0 32) k10 14 o.2.2.2.2.2.2.1, zVi (a0 14) k11 8 f11, zVl (a0 40) k12 14 o.2.2.2.2.2.2.2, zVi (a0 15) k13 8 f13, zVi (a0 26) k14 28 f14] [(k1, .int), (k2, .int), (k3, .int), (k4, .int), (k5, .int), (k6, .int), (k7, .long), (k8, .long), (k9, .long), (k10, .long), (k11, .int), (k12, .long), (k13, .int), (k14, .int)] sz := by
  refine zgoi (cc := cX12_fails) (maxL := 1) (ret := (some .int)) (C0 := RX12) (lv0 := [(0, .ref h0)]) zpl_X12 rfl rfl rfl (Nat.le_of_ble_eq_true rfl) ?_
  intro p e s m below meth c A ls Q hx hb hr hts hown hlocks hml hP hK hD hA hS hl hQ
  unfold fn_X12_fails at hfn
  refine lv_aload_n hx hb dX12_fails_0 rfl (lv_at hl 0 rfl) ?_
  obtain ⟨o_1, hqo_1, hfn⟩ := zb_s hfn
  refine zcVb (ci := 12) (rest := []) (pc' := 4) (ws' := [(h0, .inr (12, zO a0 b0 c0)), zVi (a0 17) k1 2 f1, zVi (a0 37) k2 14 f2, zVi (a0 39) k3 14 f3, zVi (a0 19) k4 28 f4, zVi (a0 20) k5 28 f5, zVi (a0 21) k6 28 f6, zVl (a0 31) k7 14 f7, zVl (a0 22) k8 28 f8, zVl (a0 23) k9 28 f9, zVl (a0 32) k10 14 f10, zVi (a0 14) k11 8 f11, zVl (a0 40) k12 14 f12, zVi (a0 15) k13 8 f13, zVi (a0 26) k14 28 f14]) hP hK hD hS hA ⟨hx, hb, hml, hown, hts⟩ (zf_X12_isThere l dC dI h0 a0 b0 c0 k1 f1 o_1 hqo_1 s.heap.size) (cwV 0 hts gX12_fails_X12_isThere rfl rfl rfl zhd_X12_isThere ⟨Nat.le_of_ble_eq_true rfl, Nat.le_of_ble_eq_true rfl⟩) [0, 1] rfl (of_decide_eq_true rfl) [0] rfl rfl rfl rfl hl.1 rfl (Nat.le_of_ble_eq_true rfl) dX12_fails_1 ⟨Nat.le_of_ble_eq_true rfl, Nat.le_of_ble_eq_true rfl⟩ [some 0, some 1] (of_decide_eq_true rfl) (of_decide_eq_true rfl) rfl rfl rfl (fun H locs hw_4n hP hD hS => ?_)
  refine lv_if_ne (tgt := 9) hx hb dX12_fails_4 (of_decide_eq_true rfl) (fun c_5 => ?_) (fun c_5 => ?_)
  · have hfn := (if_neg c_5).symm.trans hfn
    refine lv_aload_n hx hb dX12_fails_9 rfl (lv_at hl 0 rfl) ?_
    obtain ⟨o_6, hqo_6, hfn⟩ := zb_s hfn
    refine zcVb (ci := 12) (rest := []) (pc' := 13) (ws' := [(h0, .inr (12, zO a0 (zI (zI (zI b0 33 o_6.2.1) 41 o_6.2.2.1) 42 o_6.2.2.2.1) c0)), zVi (a0 17) k1 2 f1, zVi (a0 37) k2 14 f2, zVi (a0 39) k3 14 o_6.2.2.2.2.1, zVi (a0 19) k4 28 f4, zVi (a0 20) k5 28 f5, zVi (a0 21) k6 28 f6, zVl (a0 31) k7 14 o_6.2.2.2.2.2.1, zVl (a0 22) k8 28 f8, zVl (a0 23) k9 28 f9, zVl (a0 32) k10 14 o_6.2.2.2.2.2.2.1, zVi (a0 14) k11 8 f11, zVl (a0 40) k12 14 o_6.2.2.2.2.2.2.2, zVi (a0 15) k13 8 f13, zVi (a0 26) k14 28 f14]) hP hK hD hS hA ⟨hx, hb, hml, hown, hts⟩ (zf_X12_handPasses l dC dI h0 a0 b0 c0 k1 f1 k2 f2 k3 f3 k4 f4 k5 f5 k6 f6 k7 f7 k8 f8 k9 f9 k10 f10 k11 f11 k12 f12 k13 f13 k14 f14 o_6 hqo_6 H.size) (cwV 0 hts gX12_fails_X12_handPasses rfl rfl rfl zhd_X12_handPasses ⟨Nat.le_of_ble_eq_true rfl, Nat.le_of_ble_eq_true rfl⟩) [0, 1, 2, 3, 4, 5, 6, 7, 8, 9, 10, 11, 12, 13, 14] rfl (of_decide_eq_true rfl) [0, 1, 2, 3, 4, 5, 6, 7, 8, 9, 10, 11, 12, 13] rfl rfl rfl rfl hl.1 rfl (Nat.le_of_ble_eq_true rfl) dX12_fails_10 ⟨Nat.le_of_ble_eq_true rfl, Nat.le_of_ble_eq_true rfl⟩ [some 0, some 1, some 2, some 3, some 4, some 5, some 6, some 7, some 8, some 9, some 10, some 11, some 12, some 13, some 14] (of_decide_eq_true rfl) (of_decide_eq_true rfl) rfl rfl rfl (fun H locs hw_9n hP hD hS => ?_)
    refine lv_if_eq (tgt := 21) hx hb dX12_fails_13 (of_decide_eq_true rfl) (fun c_10 => ?_) (fun c_10 => ?_)
    · have hfn := (if_pos c_10).symm.trans hfn
      refine lv_aload_n hx hb dX12_fails_21 rfl (lv_at hl 0 rfl) ?_
      refine va_get (D := (dC, dI)) (ci := 12) (v := .int o_6.2.2.1) (C := RX12) (T := TX12) (N := 67) hx hb hts zn_X12_fails_X12 hown hK hP 0 rfl rfl 41 (of_decide_eq_true rfl) (hts (.fieldLink RX12 138 "ShortEnoughModel" "failsAt" "I") zw_X12_fails_1192) (fun _ h9 => h9) rfl dX12_fails_22 ?_
      have ho := Option.some.inj hfn
      subst ho
      exact zri hx hb hr hK hP hD hS hQ rfl hlocks dX12_fails_25
    have hfn := (if_neg c_10).symm.trans hfn
    refine lv_bipush (v := (-2)) hx hb dX12_fails_16 zcb_m2 ?_
    refine lv_goto (tgt := 25) hx hb dX12_fails_18 (of_decide_eq_true rfl) ?_
    have ho := Option.some.inj hfn
    subst ho
    exact zri hx hb hr hK hP hD hS hQ rfl hlocks dX12_fails_25
  have hfn := (if_pos c_5).symm.trans hfn
  refine lv_iconst (v := (-1)) hx hb dX12_fails_7 zci_m1 ?_
  have ho := Option.some.inj hfn
  subst ho
  exact zri hx hb hr hK hP hD hS hQ rfl hlocks dX12_fails_8
theorem zn_X12_why_X12 : ∀ w ∈ wsX120, w ∈ wsX12_why := fun _ h => List.mem_cons_of_mem _ (List.mem_append_right _ h)
theorem zw_X12_why_1194 : Cond.fieldLink RX12 141 "ShortEnoughModel" "failsWhy" "I" ∈ wsX12_why := List.mem_of_getElem? (i := 1) (by decide +kernel)
set_option maxHeartbeats 4000000 in
set_option maxRecDepth 100000 in
theorem zf_X12_why (l : Launch) (dC : Nat → ClassId) (dI : Nat → Nat → Nat) (h0 : Nat) (a0 : Nat → Nat) (b0 : Nat → Int32) (c0 : Nat → Int64) (k1 : Nat) (f1 : Nat → Int32) (k2 : Nat) (f2 : Nat → Int32) (k3 : Nat) (f3 : Nat → Int32) (k4 : Nat) (f4 : Nat → Int32) (k5 : Nat) (f5 : Nat → Int32) (k6 : Nat) (f6 : Nat → Int32) (k7 : Nat) (f7 : Nat → Int64) (k8 : Nat) (f8 : Nat → Int64) (k9 : Nat) (f9 : Nat → Int64) (k10 : Nat) (f10 : Nat → Int64) (k11 : Nat) (f11 : Nat → Int32) (k12 : Nat) (f12 : Nat → Int64) (k13 : Nat) (f13 : Nat → Int32) (k14 : Nat) (f14 : Nat → Int32) (o : Int32 × Int32 × Int32 × Int32 × (Nat → Int32) × (Nat → Int64) × (Nat → Int64) × (Nat → Int64)) (hfn : fn_X12_why (b0 33) (c0 34) (b0 38) (b0 41) (b0 42) f1 f2 f3 f4 f5 f6 f7 f8 f9 f10 f11 f12 f13 f14 = some o) (sz : Nat) : zMi l yX12_why wsX12_why ({ frames := 6, cells := 0, slots := 0, locals := 154 }) (dC, dI) vwCl [.ref h0] [(h0, .inr (12, zO a0 b0 c0)), zVi (a0 17) k1 2 f1, zVi (a0 37) k2 14 f2, zVi (a0 39) k3 14 f3, zVi (a0 19) k4 28 f4, zVi (a0 20) k5 28 f5, zVi (a0 21) k6 28 f6, zVl (a0 31) k7 14 f7, zVl (a0 22) k8 28 f8, zVl (a0 23) k9 28 f9, zVl (a0 32) k10 14 f10, zVi (a0 14) k11 8 f11, zVl (a0 40) k12 14 f12, zVi (a0 15) k13 8 f13, zVi (a0 26) k14 28 f14] [(k1, .int), (k2, .int), (k3, .int), (k4, .int), (k5, .int), (k6, .int), (k7, .long), (k8, .long), (k9, .long), (k10, .long), (k11, .int), (k12, .long), (k13, .int), (k14, .int)] (fun r _ => r = o.1) [(h0, .inr (12, zO a0 (zI (zI (zI b0 33 o.2.1) 41 o.2.2.1) 42 o.2.2.2.1) c0)), zVi (a0 17) k1 2 f1, zVi (a0 37) k2 14 f2, zVi (a0 39) k3 14 o.2.2.2.2.1, zVi (a0 19) k4 28 f4, zVi (a0 20) k5 28 f5, zVi (a0 21) k6 28 f6, zVl (a0 31) k7 14 o.2.2.2.2.2.1, zVl (a0 22) k8 28 f8, zVl (a0 23) k9 28 f9, zVl (a0 32) k10 14 o.2.2.2.2.2.2.1, zVi (a0 14) k11 8 f11, zVl (a0 40) k12 14 o.2.2.2.2.2.2.2, zVi (a0 15) k13 8 f13, zVi (a0 26) k14 28 f14] [(k1, .int), (k2, .int), (k3, .int), (k4, .int), (k5, .int), (k6, .int), (k7, .long), (k8, .long), (k9, .long), (k10, .long), (k11, .int), (k12, .long), (k13, .int), (k14, .int)] sz := by
  refine zgoi (cc := cX12_why) (maxL := 1) (ret := (some .int)) (C0 := RX12) (lv0 := [(0, .ref h0)]) zpl_X12 rfl rfl rfl (Nat.le_of_ble_eq_true rfl) ?_
  intro p e s m below meth c A ls Q hx hb hr hts hown hlocks hml hP hK hD hA hS hl hQ
  unfold fn_X12_why at hfn
  refine lv_aload_n hx hb dX12_why_0 rfl (lv_at hl 0 rfl) ?_
  obtain ⟨o_1, hqo_1, hfn⟩ := zb_s hfn
  refine zcVb (ci := 12) (rest := []) (pc' := 4) (ws' := [(h0, .inr (12, zO a0 b0 c0)), zVi (a0 17) k1 2 f1, zVi (a0 37) k2 14 f2, zVi (a0 39) k3 14 f3, zVi (a0 19) k4 28 f4, zVi (a0 20) k5 28 f5, zVi (a0 21) k6 28 f6, zVl (a0 31) k7 14 f7, zVl (a0 22) k8 28 f8, zVl (a0 23) k9 28 f9, zVl (a0 32) k10 14 f10, zVi (a0 14) k11 8 f11, zVl (a0 40) k12 14 f12, zVi (a0 15) k13 8 f13, zVi (a0 26) k14 28 f14]) hP hK hD hS hA ⟨hx, hb, hml, hown, hts⟩ (zf_X12_isThere l dC dI h0 a0 b0 c0 k1 f1 o_1 hqo_1 s.heap.size) (cwV 0 hts gX12_why_X12_isThere rfl rfl rfl zhd_X12_isThere ⟨Nat.le_of_ble_eq_true rfl, Nat.le_of_ble_eq_true rfl⟩) [0, 1] rfl (of_decide_eq_true rfl) [0] rfl rfl rfl rfl hl.1 rfl (Nat.le_of_ble_eq_true rfl) dX12_why_1 ⟨Nat.le_of_ble_eq_true rfl, Nat.le_of_ble_eq_true rfl⟩ [some 0, some 1] (of_decide_eq_true rfl) (of_decide_eq_true rfl) rfl rfl rfl (fun H locs hw_4n hP hD hS => ?_)
  refine lv_if_ne (tgt := 9) hx hb dX12_why_4 (of_decide_eq_true rfl) (fun c_5 => ?_) (fun c_5 => ?_)
  · have hfn := (if_neg c_5).symm.trans hfn
    refine lv_aload_n hx hb dX12_why_9 rfl (lv_at hl 0 rfl) ?_
    obtain ⟨o_6, hqo_6, hfn⟩ := zb_s hfn
    refine zcVb (ci := 12) (rest := []) (pc' := 13) (ws' := [(h0, .inr (12, zO a0 (zI (zI (zI b0 33 o_6.2.1) 41 o_6.2.2.1) 42 o_6.2.2.2.1) c0)), zVi (a0 17) k1 2 f1, zVi (a0 37) k2 14 f2, zVi (a0 39) k3 14 o_6.2.2.2.2.1, zVi (a0 19) k4 28 f4, zVi (a0 20) k5 28 f5, zVi (a0 21) k6 28 f6, zVl (a0 31) k7 14 o_6.2.2.2.2.2.1, zVl (a0 22) k8 28 f8, zVl (a0 23) k9 28 f9, zVl (a0 32) k10 14 o_6.2.2.2.2.2.2.1, zVi (a0 14) k11 8 f11, zVl (a0 40) k12 14 o_6.2.2.2.2.2.2.2, zVi (a0 15) k13 8 f13, zVi (a0 26) k14 28 f14]) hP hK hD hS hA ⟨hx, hb, hml, hown, hts⟩ (zf_X12_handPasses l dC dI h0 a0 b0 c0 k1 f1 k2 f2 k3 f3 k4 f4 k5 f5 k6 f6 k7 f7 k8 f8 k9 f9 k10 f10 k11 f11 k12 f12 k13 f13 k14 f14 o_6 hqo_6 H.size) (cwV 0 hts gX12_why_X12_handPasses rfl rfl rfl zhd_X12_handPasses ⟨Nat.le_of_ble_eq_true rfl, Nat.le_of_ble_eq_true rfl⟩) [0, 1, 2, 3, 4, 5, 6, 7, 8, 9, 10, 11, 12, 13, 14] rfl (of_decide_eq_true rfl) [0, 1, 2, 3, 4, 5, 6, 7, 8, 9, 10, 11, 12, 13] rfl rfl rfl rfl hl.1 rfl (Nat.le_of_ble_eq_true rfl) dX12_why_10 ⟨Nat.le_of_ble_eq_true rfl, Nat.le_of_ble_eq_true rfl⟩ [some 0, some 1, some 2, some 3, some 4, some 5, some 6, some 7, some 8, some 9, some 10, some 11, some 12, some 13, some 14] (of_decide_eq_true rfl) (of_decide_eq_true rfl) rfl rfl rfl (fun H locs hw_9n hP hD hS => ?_)
    refine lv_if_eq (tgt := 20) hx hb dX12_why_13 (of_decide_eq_true rfl) (fun c_10 => ?_) (fun c_10 => ?_)
    · have hfn := (if_pos c_10).symm.trans hfn
      refine lv_aload_n hx hb dX12_why_20 rfl (lv_at hl 0 rfl) ?_
      refine va_get (D := (dC, dI)) (ci := 12) (v := .int o_6.2.2.2.1) (C := RX12) (T := TX12) (N := 67) hx hb hts zn_X12_why_X12 hown hK hP 0 rfl rfl 42 (of_decide_eq_true rfl) (hts (.fieldLink RX12 141 "ShortEnoughModel" "failsWhy" "I") zw_X12_why_1194) (fun _ h9 => h9) rfl dX12_why_21 ?_
      have ho := Option.some.inj hfn
      subst ho
      exact zri hx hb hr hK hP hD hS hQ rfl hlocks dX12_why_24
    have hfn := (if_neg c_10).symm.trans hfn
    refine lv_iconst (v := 0) hx hb dX12_why_16 zci_0 ?_
    refine lv_goto (tgt := 24) hx hb dX12_why_17 (of_decide_eq_true rfl) ?_
    have ho := Option.some.inj hfn
    subst ho
    exact zri hx hb hr hK hP hD hS hQ rfl hlocks dX12_why_24
  have hfn := (if_pos c_5).symm.trans hfn
  refine lv_iconst (v := (-1)) hx hb dX12_why_7 zci_m1 ?_
  have ho := Option.some.inj hfn
  subst ho
  exact zri hx hb hr hK hP hD hS hQ rfl hlocks dX12_why_8
theorem zw_X12_error_1195 : Cond.constantLong RX12 381 (-1000000000000000) ∈ wsX12_error := List.mem_of_getElem? (i := 1) (by decide +kernel)
theorem zn_X12_error_X12 : ∀ w ∈ wsX120, w ∈ wsX12_error := fun _ h => List.mem_cons_of_mem _ (List.mem_append_right _ h)
theorem zw_X12_error_1197 : Cond.fieldLink RX12 135 "ShortEnoughModel" "error" "[J" ∈ wsX12_error := List.mem_of_getElem? (i := 3) (by decide +kernel)
theorem zw_X12_error_1198 : Cond.fieldLink RX12 138 "ShortEnoughModel" "failsAt" "I" ∈ wsX12_error := List.mem_of_getElem? (i := 2) (by decide +kernel)
set_option maxHeartbeats 4000000 in
set_option maxRecDepth 100000 in
theorem zf_X12_error (l : Launch) (dC : Nat → ClassId) (dI : Nat → Nat → Nat) (h0 : Nat) (p1 : Int32) (a0 : Nat → Nat) (b0 : Nat → Int32) (c0 : Nat → Int64) (k1 : Nat) (f1 : Nat → Int32) (k2 : Nat) (f2 : Nat → Int32) (k3 : Nat) (f3 : Nat → Int32) (k4 : Nat) (f4 : Nat → Int32) (k5 : Nat) (f5 : Nat → Int32) (k6 : Nat) (f6 : Nat → Int32) (k7 : Nat) (f7 : Nat → Int64) (k8 : Nat) (f8 : Nat → Int64) (k9 : Nat) (f9 : Nat → Int64) (k10 : Nat) (f10 : Nat → Int64) (k11 : Nat) (f11 : Nat → Int32) (k12 : Nat) (f12 : Nat → Int64) (k13 : Nat) (f13 : Nat → Int32) (k14 : Nat) (f14 : Nat → Int32) (o : Int64 × Int32 × Int32 × Int32 × (Nat → Int32) × (Nat → Int64) × (Nat → Int64) × (Nat → Int64)) (hfn : fn_X12_error p1 (b0 33) (c0 34) (b0 38) (b0 41) (b0 42) f1 f2 f3 f4 f5 f6 f7 f8 f9 f10 f11 f12 f13 f14 = some o) (sz : Nat) : zMl l yX12_error wsX12_error ({ frames := 6, cells := 0, slots := 0, locals := 154 }) (dC, dI) vwCl [.ref h0, .int p1] [(h0, .inr (12, zO a0 b0 c0)), zVi (a0 17) k1 2 f1, zVi (a0 37) k2 14 f2, zVi (a0 39) k3 14 f3, zVi (a0 19) k4 28 f4, zVi (a0 20) k5 28 f5, zVi (a0 21) k6 28 f6, zVl (a0 31) k7 14 f7, zVl (a0 22) k8 28 f8, zVl (a0 23) k9 28 f9, zVl (a0 32) k10 14 f10, zVi (a0 14) k11 8 f11, zVl (a0 40) k12 14 f12, zVi (a0 15) k13 8 f13, zVi (a0 26) k14 28 f14] [(k1, .int), (k2, .int), (k3, .int), (k4, .int), (k5, .int), (k6, .int), (k7, .long), (k8, .long), (k9, .long), (k10, .long), (k11, .int), (k12, .long), (k13, .int), (k14, .int)] (fun r _ => r = o.1) [(h0, .inr (12, zO a0 (zI (zI (zI b0 33 o.2.1) 41 o.2.2.1) 42 o.2.2.2.1) c0)), zVi (a0 17) k1 2 f1, zVi (a0 37) k2 14 f2, zVi (a0 39) k3 14 o.2.2.2.2.1, zVi (a0 19) k4 28 f4, zVi (a0 20) k5 28 f5, zVi (a0 21) k6 28 f6, zVl (a0 31) k7 14 o.2.2.2.2.2.1, zVl (a0 22) k8 28 f8, zVl (a0 23) k9 28 f9, zVl (a0 32) k10 14 o.2.2.2.2.2.2.1, zVi (a0 14) k11 8 f11, zVl (a0 40) k12 14 o.2.2.2.2.2.2.2, zVi (a0 15) k13 8 f13, zVi (a0 26) k14 28 f14] [(k1, .int), (k2, .int), (k3, .int), (k4, .int), (k5, .int), (k6, .int), (k7, .long), (k8, .long), (k9, .long), (k10, .long), (k11, .int), (k12, .long), (k13, .int), (k14, .int)] sz := by
  refine zgol (cc := cX12_error) (maxL := 3) (ret := (some .long)) (C0 := RX12) (lv0 := [(0, .ref h0), (1, .int p1)]) zpl_X12 rfl rfl rfl (Nat.le_of_ble_eq_true rfl) ?_
  intro p e s m below meth c A ls Q hx hb hr hts hown hlocks hml hP hK hD hA hS hl hQ
  unfold fn_X12_error at hfn
  refine lv_aload_n hx hb dX12_error_0 rfl (lv_at hl 0 rfl) ?_
  obtain ⟨o_1, hqo_1, hfn⟩ := zb_s hfn
  refine zcVb (ci := 12) (rest := []) (pc' := 4) (ws' := [(h0, .inr (12, zO a0 b0 c0)), zVi (a0 17) k1 2 f1, zVi (a0 37) k2 14 f2, zVi (a0 39) k3 14 f3, zVi (a0 19) k4 28 f4, zVi (a0 20) k5 28 f5, zVi (a0 21) k6 28 f6, zVl (a0 31) k7 14 f7, zVl (a0 22) k8 28 f8, zVl (a0 23) k9 28 f9, zVl (a0 32) k10 14 f10, zVi (a0 14) k11 8 f11, zVl (a0 40) k12 14 f12, zVi (a0 15) k13 8 f13, zVi (a0 26) k14 28 f14]) hP hK hD hS hA ⟨hx, hb, hml, hown, hts⟩ (zf_X12_isThere l dC dI h0 a0 b0 c0 k1 f1 o_1 hqo_1 s.heap.size) (cwV 0 hts gX12_error_X12_isThere rfl rfl rfl zhd_X12_isThere ⟨Nat.le_of_ble_eq_true rfl, Nat.le_of_ble_eq_true rfl⟩) [0, 1] rfl (of_decide_eq_true rfl) [0] rfl rfl rfl rfl hl.1 rfl (Nat.le_of_ble_eq_true rfl) dX12_error_1 ⟨Nat.le_of_ble_eq_true rfl, Nat.le_of_ble_eq_true rfl⟩ [some 0, some 1] (of_decide_eq_true rfl) (of_decide_eq_true rfl) rfl rfl rfl (fun H locs hw_4n hP hD hS => ?_)
  refine lv_if_eq (tgt := 15) hx hb dX12_error_4 (of_decide_eq_true rfl) (fun c_5 => ?_) (fun c_5 => ?_)
  · have hfn := (if_pos c_5).symm.trans hfn
    refine lv_ldc2 (v := (-1000000000000000)) hx hb hown (hts (.constantLong RX12 381 (-1000000000000000)) zw_X12_error_1195) dX12_error_15 ?_
    have ho := Option.some.inj hfn
    subst ho
    exact zrl hx hb hr hK hP hD hS hQ rfl hlocks dX12_error_18
  have hfn := (if_neg c_5).symm.trans hfn
  refine lv_aload_n hx hb dX12_error_7 rfl (lv_at hl 0 rfl) ?_
  refine lv_iload_n hx hb dX12_error_8 rfl (lv_at hl 1 rfl) ?_
  obtain ⟨o_6, hqo_6, hfn⟩ := zb_s hfn
  refine zcVb (ci := 12) (rest := []) (pc' := 12) (ws' := [(h0, .inr (12, zO a0 b0 c0)), zVi (a0 17) k1 2 f1, zVi (a0 37) k2 14 f2, zVi (a0 39) k3 14 f3, zVi (a0 19) k4 28 f4, zVi (a0 20) k5 28 f5, zVi (a0 21) k6 28 f6, zVl (a0 31) k7 14 f7, zVl (a0 22) k8 28 f8, zVl (a0 23) k9 28 f9, zVl (a0 32) k10 14 f10, zVi (a0 14) k11 8 f11, zVl (a0 40) k12 14 f12, zVi (a0 15) k13 8 f13, zVi (a0 26) k14 28 f14]) hP hK hD hS hA ⟨hx, hb, hml, hown, hts⟩ (zf_X12_isNumber l dC dI h0 p1 a0 b0 c0 k1 f1 o_6 hqo_6 H.size) (cwV 1 hts gX12_error_X12_isNumber rfl rfl rfl zhd_X12_isNumber ⟨Nat.le_of_ble_eq_true rfl, Nat.le_of_ble_eq_true rfl⟩) [0, 1] rfl (of_decide_eq_true rfl) [0] rfl rfl rfl rfl hl.1 rfl (Nat.le_of_ble_eq_true rfl) dX12_error_9 ⟨Nat.le_of_ble_eq_true rfl, Nat.le_of_ble_eq_true rfl⟩ [some 0, some 1] (of_decide_eq_true rfl) (of_decide_eq_true rfl) rfl rfl rfl (fun H locs hw_9n hP hD hS => ?_)
  refine lv_if_ne (tgt := 19) hx hb dX12_error_12 (of_decide_eq_true rfl) (fun c_10 => ?_) (fun c_10 => ?_)
  · have hfn := (if_neg c_10).symm.trans hfn
    refine lv_aload_n hx hb dX12_error_19 rfl (lv_at hl 0 rfl) ?_
    obtain ⟨o_11, hqo_11, hfn⟩ := zb_s hfn
    refine zcVb (ci := 12) (rest := []) (pc' := 23) (ws' := [(h0, .inr (12, zO a0 (zI (zI (zI b0 33 o_11.2.1) 41 o_11.2.2.1) 42 o_11.2.2.2.1) c0)), zVi (a0 17) k1 2 f1, zVi (a0 37) k2 14 f2, zVi (a0 39) k3 14 o_11.2.2.2.2.1, zVi (a0 19) k4 28 f4, zVi (a0 20) k5 28 f5, zVi (a0 21) k6 28 f6, zVl (a0 31) k7 14 o_11.2.2.2.2.2.1, zVl (a0 22) k8 28 f8, zVl (a0 23) k9 28 f9, zVl (a0 32) k10 14 o_11.2.2.2.2.2.2.1, zVi (a0 14) k11 8 f11, zVl (a0 40) k12 14 o_11.2.2.2.2.2.2.2, zVi (a0 15) k13 8 f13, zVi (a0 26) k14 28 f14]) hP hK hD hS hA ⟨hx, hb, hml, hown, hts⟩ (zf_X12_handPasses l dC dI h0 a0 b0 c0 k1 f1 k2 f2 k3 f3 k4 f4 k5 f5 k6 f6 k7 f7 k8 f8 k9 f9 k10 f10 k11 f11 k12 f12 k13 f13 k14 f14 o_11 hqo_11 H.size) (cwV 0 hts gX12_error_X12_handPasses rfl rfl rfl zhd_X12_handPasses ⟨Nat.le_of_ble_eq_true rfl, Nat.le_of_ble_eq_true rfl⟩) [0, 1, 2, 3, 4, 5, 6, 7, 8, 9, 10, 11, 12, 13, 14] rfl (of_decide_eq_true rfl) [0, 1, 2, 3, 4, 5, 6, 7, 8, 9, 10, 11, 12, 13] rfl rfl rfl rfl hl.1 rfl (Nat.le_of_ble_eq_true rfl) dX12_error_20 ⟨Nat.le_of_ble_eq_true rfl, Nat.le_of_ble_eq_true rfl⟩ [some 0, some 1, some 2, some 3, some 4, some 5, some 6, some 7, some 8, some 9, some 10, some 11, some 12, some 13, some 14] (of_decide_eq_true rfl) (of_decide_eq_true rfl) rfl rfl rfl (fun H locs hw_14n hP hD hS => ?_)
    refine lv_istore_n (lv' := [(2, .int o_11.1), (0, .ref h0), (1, .int p1)]) hx hb dX12_error_23 rfl hl (of_decide_eq_true rfl) rfl (fun ls hl => ?_)
    refine lv_iload_n hx hb dX12_error_24 rfl (lv_at hl 0 rfl) ?_
    refine lv_if_ne (tgt := 36) hx hb dX12_error_25 (of_decide_eq_true rfl) (fun c_15 => ?_) (fun c_15 => ?_)
    · have hfn := (if_neg c_15).symm.trans hfn
      refine lv_aload_n hx hb dX12_error_36 rfl (lv_at hl 1 rfl) ?_
      refine va_get (D := (dC, dI)) (ci := 12) (v := .ref (a0 40)) (C := RX12) (T := TX12) (N := 67) hx hb hts zn_X12_error_X12 hown hK hP 0 rfl rfl 40 (of_decide_eq_true rfl) (hts (.fieldLink RX12 135 "ShortEnoughModel" "error" "[J") zw_X12_error_1197) (fun _ h9 => h9) rfl dX12_error_37 ?_
      refine lv_iload_n hx hb dX12_error_40 rfl (lv_at hl 2 rfl) ?_
      obtain ⟨h_16, hfn⟩ := zg_s hfn
      refine va_lald hx hb hK hP 12 11 rfl rfl h_16 dX12_error_41 ?_
      refine lv_goto (tgt := 48) hx hb dX12_error_42 (of_decide_eq_true rfl) ?_
      have ho := Option.some.inj hfn
      subst ho
      exact zrl hx hb hr hK hP hD hS hQ rfl hlocks dX12_error_48
    have hfn := (if_pos c_15).symm.trans hfn
    refine lv_iload_n hx hb dX12_error_28 rfl (lv_at hl 2 rfl) ?_
    refine lv_aload_n hx hb dX12_error_29 rfl (lv_at hl 1 rfl) ?_
    refine va_get (D := (dC, dI)) (ci := 12) (v := .int o_11.2.2.1) (C := RX12) (T := TX12) (N := 67) hx hb hts zn_X12_error_X12 hown hK hP 0 rfl rfl 41 (of_decide_eq_true rfl) (hts (.fieldLink RX12 138 "ShortEnoughModel" "failsAt" "I") zw_X12_error_1198) (fun _ h9 => h9) rfl dX12_error_30 ?_
    refine lv_icmp_gt (tgt := 45) hx hb dX12_error_33 (of_decide_eq_true rfl) (fun c_17 => ?_) (fun c_17 => ?_)
    · have hfn := (if_pos c_17).symm.trans hfn
      refine lv_ldc2 (v := (-1000000000000000)) hx hb hown (hts (.constantLong RX12 381 (-1000000000000000)) zw_X12_error_1195) dX12_error_45 ?_
      have ho := Option.some.inj hfn
      subst ho
      exact zrl hx hb hr hK hP hD hS hQ rfl hlocks dX12_error_48
    have hfn := (if_neg c_17).symm.trans hfn
    refine lv_aload_n hx hb dX12_error_36 rfl (lv_at hl 1 rfl) ?_
    refine va_get (D := (dC, dI)) (ci := 12) (v := .ref (a0 40)) (C := RX12) (T := TX12) (N := 67) hx hb hts zn_X12_error_X12 hown hK hP 0 rfl rfl 40 (of_decide_eq_true rfl) (hts (.fieldLink RX12 135 "ShortEnoughModel" "error" "[J") zw_X12_error_1197) (fun _ h9 => h9) rfl dX12_error_37 ?_
    refine lv_iload_n hx hb dX12_error_40 rfl (lv_at hl 2 rfl) ?_
    obtain ⟨h_18, hfn⟩ := zg_s hfn
    refine va_lald hx hb hK hP 12 11 rfl rfl h_18 dX12_error_41 ?_
    refine lv_goto (tgt := 48) hx hb dX12_error_42 (of_decide_eq_true rfl) ?_
    have ho := Option.some.inj hfn
    subst ho
    exact zrl hx hb hr hK hP hD hS hQ rfl hlocks dX12_error_48
  have hfn := (if_pos c_10).symm.trans hfn
  refine lv_ldc2 (v := (-1000000000000000)) hx hb hown (hts (.constantLong RX12 381 (-1000000000000000)) zw_X12_error_1195) dX12_error_15 ?_
  have ho := Option.some.inj hfn
  subst ho
  exact zrl hx hb hr hK hP hD hS hQ rfl hlocks dX12_error_18
theorem zn_X12_isAnswer_X12 : ∀ w ∈ wsX120, w ∈ wsX12_isAnswer := fun _ h => List.mem_cons_of_mem _ (List.mem_append_right _ h)
theorem zw_X12_isAnswer_1200 : Cond.fieldLink RX12 90 "ShortEnoughModel" "within" "[I" ∈ wsX12_isAnswer := List.mem_of_getElem? (i := 1) (by decide +kernel)
set_option maxHeartbeats 4000000 in
set_option maxRecDepth 100000 in
theorem zf_X12_isAnswer (l : Launch) (dC : Nat → ClassId) (dI : Nat → Nat → Nat) (h0 : Nat) (p1 : Int32) (a0 : Nat → Nat) (b0 : Nat → Int32) (c0 : Nat → Int64) (k1 : Nat) (f1 : Nat → Int32) (k2 : Nat) (f2 : Nat → Int32) (o : Int32) (hfn : fn_X12_isAnswer p1 f1 f2 = some o) (sz : Nat) : zMi l yX12_isAnswer wsX12_isAnswer ({ frames := 2, cells := 0, slots := 0, locals := 46 }) (dC, dI) vwCl [.ref h0, .int p1] [(h0, .inr (12, zO a0 b0 c0)), zVi (a0 17) k1 2 f1, zVi (a0 26) k2 28 f2] [(k1, .int), (k2, .int)] (fun r _ => r = o ∧ narrow .boolean (.int o) = .int o) [(h0, .inr (12, zO a0 b0 c0)), zVi (a0 17) k1 2 f1, zVi (a0 26) k2 28 f2] [(k1, .int), (k2, .int)] sz := by
  refine zgoi (cc := cX12_isAnswer) (maxL := 2) (ret := (some .boolean)) (C0 := RX12) (lv0 := [(0, .ref h0), (1, .int p1)]) zpl_X12 rfl rfl rfl (Nat.le_of_ble_eq_true rfl) ?_
  intro p e s m below meth c A ls Q hx hb hr hts hown hlocks hml hP hK hD hA hS hl hQ
  unfold fn_X12_isAnswer at hfn
  refine lv_aload_n hx hb dX12_isAnswer_0 rfl (lv_at hl 0 rfl) ?_
  refine lv_iload_n hx hb dX12_isAnswer_1 rfl (lv_at hl 1 rfl) ?_
  obtain ⟨o_1, hqo_1, hfn⟩ := zb_s hfn
  refine zcVb (ci := 12) (rest := []) (pc' := 5) (ws' := [(h0, .inr (12, zO a0 b0 c0)), zVi (a0 17) k1 2 f1, zVi (a0 26) k2 28 f2]) hP hK hD hS hA ⟨hx, hb, hml, hown, hts⟩ (zf_X12_isNumber l dC dI h0 p1 a0 b0 c0 k1 f1 o_1 hqo_1 s.heap.size) (cwV 1 hts gX12_isAnswer_X12_isNumber rfl rfl rfl zhd_X12_isNumber ⟨Nat.le_of_ble_eq_true rfl, Nat.le_of_ble_eq_true rfl⟩) [0, 1] rfl (of_decide_eq_true rfl) [0] rfl rfl rfl rfl hl.1 rfl (Nat.le_of_ble_eq_true rfl) dX12_isAnswer_2 ⟨Nat.le_of_ble_eq_true rfl, Nat.le_of_ble_eq_true rfl⟩ [some 0, some 1] (of_decide_eq_true rfl) (of_decide_eq_true rfl) rfl rfl rfl (fun H locs hw_4n hP hD hS => ?_)
  refine lv_if_eq (tgt := 22) hx hb dX12_isAnswer_5 (of_decide_eq_true rfl) (fun c_5 => ?_) (fun c_5 => ?_)
  · have hfn := (if_pos c_5).symm.trans hfn
    refine lv_iconst (v := 0) hx hb dX12_isAnswer_22 zci_0 ?_
    have ho := Option.some.inj hfn
    subst ho
    exact zrz hx hb hr rfl hK hP hD hS hQ ⟨rfl, zB0⟩ hlocks dX12_isAnswer_23
  have hfn := (if_neg c_5).symm.trans hfn
  refine lv_aload_n hx hb dX12_isAnswer_8 rfl (lv_at hl 0 rfl) ?_
  refine va_get (D := (dC, dI)) (ci := 12) (v := .ref (a0 26)) (C := RX12) (T := TX12) (N := 67) hx hb hts zn_X12_isAnswer_X12 hown hK hP 0 rfl rfl 26 (of_decide_eq_true rfl) (hts (.fieldLink RX12 90 "ShortEnoughModel" "within" "[I") zw_X12_isAnswer_1200) (fun _ h9 => h9) rfl dX12_isAnswer_9 ?_
  refine lv_iload_n hx hb dX12_isAnswer_12 rfl (lv_at hl 1 rfl) ?_
  obtain ⟨h_6, hfn⟩ := zg_s hfn
  refine va_iald hx hb hK hP 2 1 rfl rfl h_6 dX12_isAnswer_13 ?_
  refine lv_iconst (v := (-1)) hx hb dX12_isAnswer_14 zci_m1 ?_
  refine lv_icmp_eq (tgt := 22) hx hb dX12_isAnswer_15 (of_decide_eq_true rfl) (fun c_7 => ?_) (fun c_7 => ?_)
  · have hfn := (if_pos c_7).symm.trans hfn
    refine lv_iconst (v := 0) hx hb dX12_isAnswer_22 zci_0 ?_
    have ho := Option.some.inj hfn
    subst ho
    exact zrz hx hb hr rfl hK hP hD hS hQ ⟨rfl, zB0⟩ hlocks dX12_isAnswer_23
  have hfn := (if_neg c_7).symm.trans hfn
  refine lv_iconst (v := 1) hx hb dX12_isAnswer_18 zci_1 ?_
  refine lv_goto (tgt := 23) hx hb dX12_isAnswer_19 (of_decide_eq_true rfl) ?_
  have ho := Option.some.inj hfn
  subst ho
  exact zrz hx hb hr rfl hK hP hD hS hQ ⟨rfl, zB1⟩ hlocks dX12_isAnswer_23
theorem zw_X12_slack_1201 : Cond.constantLong RX12 381 (-1000000000000000) ∈ wsX12_slack := List.mem_of_getElem? (i := 3) (by decide +kernel)
theorem zn_X12_slack_X12 : ∀ w ∈ wsX120, w ∈ wsX12_slack := fun _ h => List.mem_cons_of_mem _ (List.mem_append_right _ h)
theorem zw_X12_slack_1203 : Cond.fieldLink RX12 90 "ShortEnoughModel" "within" "[I" ∈ wsX12_slack := List.mem_of_getElem? (i := 1) (by decide +kernel)
theorem zw_X12_slack_1204 : Cond.fieldLink RX12 135 "ShortEnoughModel" "error" "[J" ∈ wsX12_slack := List.mem_of_getElem? (i := 2) (by decide +kernel)
set_option maxHeartbeats 4000000 in
set_option maxRecDepth 100000 in
theorem zf_X12_slack (l : Launch) (dC : Nat → ClassId) (dI : Nat → Nat → Nat) (h0 : Nat) (p1 : Int32) (a0 : Nat → Nat) (b0 : Nat → Int32) (c0 : Nat → Int64) (k1 : Nat) (f1 : Nat → Int32) (k2 : Nat) (f2 : Nat → Int32) (k3 : Nat) (f3 : Nat → Int32) (k4 : Nat) (f4 : Nat → Int32) (k5 : Nat) (f5 : Nat → Int32) (k6 : Nat) (f6 : Nat → Int32) (k7 : Nat) (f7 : Nat → Int32) (k8 : Nat) (f8 : Nat → Int64) (k9 : Nat) (f9 : Nat → Int64) (k10 : Nat) (f10 : Nat → Int64) (k11 : Nat) (f11 : Nat → Int64) (k12 : Nat) (f12 : Nat → Int32) (k13 : Nat) (f13 : Nat → Int64) (k14 : Nat) (f14 : Nat → Int32) (o : Int64 × Int32 × Int32 × Int32 × (Nat → Int32) × (Nat → Int64) × (Nat → Int64) × (Nat → Int64)) (hfn : fn_X12_slack p1 (b0 33) (c0 34) (b0 38) (b0 41) (b0 42) f1 f2 f3 f4 f5 f6 f7 f8 f9 f10 f11 f12 f13 f14 = some o) (sz : Nat) : zMl l yX12_slack wsX12_slack ({ frames := 6, cells := 0, slots := 0, locals := 154 }) (dC, dI) vwCl [.ref h0, .int p1] [(h0, .inr (12, zO a0 b0 c0)), zVi (a0 17) k1 2 f1, zVi (a0 26) k2 28 f2, zVi (a0 37) k3 14 f3, zVi (a0 39) k4 14 f4, zVi (a0 19) k5 28 f5, zVi (a0 20) k6 28 f6, zVi (a0 21) k7 28 f7, zVl (a0 31) k8 14 f8, zVl (a0 22) k9 28 f9, zVl (a0 23) k10 28 f10, zVl (a0 32) k11 14 f11, zVi (a0 14) k12 8 f12, zVl (a0 40) k13 14 f13, zVi (a0 15) k14 8 f14] [(k1, .int), (k2, .int), (k3, .int), (k4, .int), (k5, .int), (k6, .int), (k7, .int), (k8, .long), (k9, .long), (k10, .long), (k11, .long), (k12, .int), (k13, .long), (k14, .int)] (fun r _ => r = o.1) [(h0, .inr (12, zO a0 (zI (zI (zI b0 33 o.2.1) 41 o.2.2.1) 42 o.2.2.2.1) c0)), zVi (a0 17) k1 2 f1, zVi (a0 26) k2 28 f2, zVi (a0 37) k3 14 f3, zVi (a0 39) k4 14 o.2.2.2.2.1, zVi (a0 19) k5 28 f5, zVi (a0 20) k6 28 f6, zVi (a0 21) k7 28 f7, zVl (a0 31) k8 14 o.2.2.2.2.2.1, zVl (a0 22) k9 28 f9, zVl (a0 23) k10 28 f10, zVl (a0 32) k11 14 o.2.2.2.2.2.2.1, zVi (a0 14) k12 8 f12, zVl (a0 40) k13 14 o.2.2.2.2.2.2.2, zVi (a0 15) k14 8 f14] [(k1, .int), (k2, .int), (k3, .int), (k4, .int), (k5, .int), (k6, .int), (k7, .int), (k8, .long), (k9, .long), (k10, .long), (k11, .long), (k12, .int), (k13, .long), (k14, .int)] sz := by
  refine zgol (cc := cX12_slack) (maxL := 2) (ret := (some .long)) (C0 := RX12) (lv0 := [(0, .ref h0), (1, .int p1)]) zpl_X12 rfl rfl rfl (Nat.le_of_ble_eq_true rfl) ?_
  intro p e s m below meth c A ls Q hx hb hr hts hown hlocks hml hP hK hD hA hS hl hQ
  unfold fn_X12_slack at hfn
  refine lv_aload_n hx hb dX12_slack_0 rfl (lv_at hl 0 rfl) ?_
  refine lv_iload_n hx hb dX12_slack_1 rfl (lv_at hl 1 rfl) ?_
  obtain ⟨o_1, hqo_1, hfn⟩ := zb_s hfn
  refine zcVb (ci := 12) (rest := []) (pc' := 5) (ws' := [(h0, .inr (12, zO a0 b0 c0)), zVi (a0 17) k1 2 f1, zVi (a0 26) k2 28 f2, zVi (a0 37) k3 14 f3, zVi (a0 39) k4 14 f4, zVi (a0 19) k5 28 f5, zVi (a0 20) k6 28 f6, zVi (a0 21) k7 28 f7, zVl (a0 31) k8 14 f8, zVl (a0 22) k9 28 f9, zVl (a0 23) k10 28 f10, zVl (a0 32) k11 14 f11, zVi (a0 14) k12 8 f12, zVl (a0 40) k13 14 f13, zVi (a0 15) k14 8 f14]) hP hK hD hS hA ⟨hx, hb, hml, hown, hts⟩ (zf_X12_isAnswer l dC dI h0 p1 a0 b0 c0 k1 f1 k2 f2 o_1 hqo_1 s.heap.size) (cwV 1 hts gX12_slack_X12_isAnswer rfl rfl rfl zhd_X12_isAnswer ⟨Nat.le_of_ble_eq_true rfl, Nat.le_of_ble_eq_true rfl⟩) [0, 1, 2] rfl (of_decide_eq_true rfl) [0, 1] rfl rfl rfl rfl hl.1 rfl (Nat.le_of_ble_eq_true rfl) dX12_slack_2 ⟨Nat.le_of_ble_eq_true rfl, Nat.le_of_ble_eq_true rfl⟩ [some 0, some 1, some 2] (of_decide_eq_true rfl) (of_decide_eq_true rfl) rfl rfl rfl (fun H locs hw_4n hP hD hS => ?_)
  refine lv_if_eq (tgt := 32) hx hb dX12_slack_5 (of_decide_eq_true rfl) (fun c_5 => ?_) (fun c_5 => ?_)
  · have hfn := (if_pos c_5).symm.trans hfn
    refine lv_ldc2 (v := (-1000000000000000)) hx hb hown (hts (.constantLong RX12 381 (-1000000000000000)) zw_X12_slack_1201) dX12_slack_32 ?_
    have ho := Option.some.inj hfn
    subst ho
    exact zrl hx hb hr hK hP hD hS hQ rfl hlocks dX12_slack_35
  have hfn := (if_neg c_5).symm.trans hfn
  refine lv_aload_n hx hb dX12_slack_8 rfl (lv_at hl 0 rfl) ?_
  obtain ⟨o_6, hqo_6, hfn⟩ := zb_s hfn
  refine zcVb (ci := 12) (rest := []) (pc' := 12) (ws' := [(h0, .inr (12, zO a0 (zI (zI (zI b0 33 o_6.2.1) 41 o_6.2.2.1) 42 o_6.2.2.2.1) c0)), zVi (a0 17) k1 2 f1, zVi (a0 26) k2 28 f2, zVi (a0 37) k3 14 f3, zVi (a0 39) k4 14 o_6.2.2.2.2.1, zVi (a0 19) k5 28 f5, zVi (a0 20) k6 28 f6, zVi (a0 21) k7 28 f7, zVl (a0 31) k8 14 o_6.2.2.2.2.2.1, zVl (a0 22) k9 28 f9, zVl (a0 23) k10 28 f10, zVl (a0 32) k11 14 o_6.2.2.2.2.2.2.1, zVi (a0 14) k12 8 f12, zVl (a0 40) k13 14 o_6.2.2.2.2.2.2.2, zVi (a0 15) k14 8 f14]) hP hK hD hS hA ⟨hx, hb, hml, hown, hts⟩ (zf_X12_handPasses l dC dI h0 a0 b0 c0 k1 f1 k3 f3 k4 f4 k5 f5 k6 f6 k7 f7 k8 f8 k9 f9 k10 f10 k11 f11 k12 f12 k13 f13 k14 f14 k2 f2 o_6 hqo_6 H.size) (cwV 0 hts gX12_slack_X12_handPasses rfl rfl rfl zhd_X12_handPasses ⟨Nat.le_of_ble_eq_true rfl, Nat.le_of_ble_eq_true rfl⟩) [0, 1, 3, 4, 5, 6, 7, 8, 9, 10, 11, 12, 13, 14, 2] rfl (of_decide_eq_true rfl) [0, 2, 3, 4, 5, 6, 7, 8, 9, 10, 11, 12, 13, 1] rfl rfl rfl rfl hl.1 rfl (Nat.le_of_ble_eq_true rfl) dX12_slack_9 ⟨Nat.le_of_ble_eq_true rfl, Nat.le_of_ble_eq_true rfl⟩ [some 0, some 1, some 14, some 2, some 3, some 4, some 5, some 6, some 7, some 8, some 9, some 10, some 11, some 12, some 13] (of_decide_eq_true rfl) (of_decide_eq_true rfl) rfl rfl rfl (fun H locs hw_9n hP hD hS => ?_)
  refine lv_if_eq (tgt := 32) hx hb dX12_slack_12 (of_decide_eq_true rfl) (fun c_10 => ?_) (fun c_10 => ?_)
  · have hfn := (if_pos c_10).symm.trans hfn
    refine lv_ldc2 (v := (-1000000000000000)) hx hb hown (hts (.constantLong RX12 381 (-1000000000000000)) zw_X12_slack_1201) dX12_slack_32 ?_
    have ho := Option.some.inj hfn
    subst ho
    exact zrl hx hb hr hK hP hD hS hQ rfl hlocks dX12_slack_35
  have hfn := (if_neg c_10).symm.trans hfn
  refine lv_aload_n hx hb dX12_slack_15 rfl (lv_at hl 0 rfl) ?_
  refine va_get (D := (dC, dI)) (ci := 12) (v := .ref (a0 26)) (C := RX12) (T := TX12) (N := 67) hx hb hts zn_X12_slack_X12 hown hK hP 0 rfl rfl 26 (of_decide_eq_true rfl) (hts (.fieldLink RX12 90 "ShortEnoughModel" "within" "[I") zw_X12_slack_1203) (fun _ h9 => h9) rfl dX12_slack_16 ?_
  refine lv_iload_n hx hb dX12_slack_19 rfl (lv_at hl 1 rfl) ?_
  obtain ⟨h_11, hfn⟩ := zg_s hfn
  refine va_iald hx hb hK hP 2 1 rfl rfl h_11 dX12_slack_20 ?_
  refine lv_i2l (v := (f2 p1.toNatClampNeg).toInt64) hx hb dX12_slack_21 rfl ?_
  refine lv_aload_n hx hb dX12_slack_22 rfl (lv_at hl 0 rfl) ?_
  refine va_get (D := (dC, dI)) (ci := 12) (v := .ref (a0 40)) (C := RX12) (T := TX12) (N := 67) hx hb hts zn_X12_slack_X12 hown hK hP 0 rfl rfl 40 (of_decide_eq_true rfl) (hts (.fieldLink RX12 135 "ShortEnoughModel" "error" "[J") zw_X12_slack_1204) (fun _ h9 => h9) rfl dX12_slack_23 ?_
  refine lv_iload_n hx hb dX12_slack_26 rfl (lv_at hl 1 rfl) ?_
  obtain ⟨h_12, hfn⟩ := zg_s hfn
  refine va_lald hx hb hK hP 13 12 rfl rfl h_12 dX12_slack_27 ?_
  refine lv_lsub hx hb dX12_slack_28 ?_
  refine lv_goto (tgt := 35) hx hb dX12_slack_29 (of_decide_eq_true rfl) ?_
  have ho := Option.some.inj hfn
  subst ho
  exact zrl hx hb hr hK hP hD hS hQ rfl hlocks dX12_slack_35
theorem zn_X12_widest_X12 : ∀ w ∈ wsX120, w ∈ wsX12_widest := fun _ h => List.mem_cons_of_mem _ (List.mem_append_right _ h)
theorem zw_X12_widest_1206 : Cond.fieldLink RX12 68 "ShortEnoughModel" "op" "[I" ∈ wsX12_widest := List.mem_of_getElem? (i := 1) (by decide +kernel)
theorem zw_X12_widest_1207 : Cond.constant RX12 458 (10000000) ∈ wsX12_widest := List.mem_of_getElem? (i := 2) (by decide +kernel)
theorem zw_X12_widest_1208 : Cond.fieldLink RX12 112 "ShortEnoughModel" "wideNumber" "I" ∈ wsX12_widest := List.mem_of_getElem? (i := 3) (by decide +kernel)
theorem zw_X12_widest_1209 : Cond.fieldLink RX12 115 "ShortEnoughModel" "wideBy" "J" ∈ wsX12_widest := List.mem_of_getElem? (i := 4) (by decide +kernel)
set_option maxHeartbeats 4000000 in
set_option maxRecDepth 100000 in
theorem zf_X12_widest (l : Launch) (dC : Nat → ClassId) (dI : Nat → Nat → Nat) (h0 : Nat) (p1 : Int32) (a0 : Nat → Nat) (b0 : Nat → Int32) (c0 : Nat → Int64) (k1 : Nat) (f1 : Nat → Int32) (k2 : Nat) (f2 : Nat → Int32) (k3 : Nat) (f3 : Nat → Int32) (k4 : Nat) (f4 : Nat → Int32) (k5 : Nat) (f5 : Nat → Int32) (k6 : Nat) (f6 : Nat → Int32) (k7 : Nat) (f7 : Nat → Int64) (k8 : Nat) (f8 : Nat → Int64) (k9 : Nat) (f9 : Nat → Int64) (k10 : Nat) (f10 : Nat → Int64) (k11 : Nat) (f11 : Nat → Int32) (k12 : Nat) (f12 : Nat → Int64) (k13 : Nat) (f13 : Nat → Int32) (k14 : Nat) (f14 : Nat → Int32) (o : Int32 × Int32 × Int64 × Int32 × Int32 × (Nat → Int32) × (Nat → Int64) × (Nat → Int64) × (Nat → Int64)) (hfn : fn_X12_widest p1 (b0 33) (c0 34) (b0 38) (b0 41) (b0 42) f1 f2 f3 f4 f5 f6 f7 f8 f9 f10 f11 f12 f13 f14 = some o) (sz : Nat) : zMi l yX12_widest wsX12_widest ({ frames := 6, cells := 0, slots := 0, locals := 154 }) (dC, dI) vwCl [.ref h0, .int p1] [(h0, .inr (12, zO a0 b0 c0)), zVi (a0 17) k1 2 f1, zVi (a0 19) k2 28 f2, zVi (a0 37) k3 14 f3, zVi (a0 39) k4 14 f4, zVi (a0 20) k5 28 f5, zVi (a0 21) k6 28 f6, zVl (a0 31) k7 14 f7, zVl (a0 22) k8 28 f8, zVl (a0 23) k9 28 f9, zVl (a0 32) k10 14 f10, zVi (a0 14) k11 8 f11, zVl (a0 40) k12 14 f12, zVi (a0 15) k13 8 f13, zVi (a0 26) k14 28 f14] [(k1, .int), (k2, .int), (k3, .int), (k4, .int), (k5, .int), (k6, .int), (k7, .long), (k8, .long), (k9, .long), (k10, .long), (k11, .int), (k12, .long), (k13, .int), (k14, .int)] (fun r _ => r = o.1) [(h0, .inr (12, zO a0 (zI (zI (zI b0 33 o.2.1) 41 o.2.2.2.1) 42 o.2.2.2.2.1) (zJ c0 34 o.2.2.1))), zVi (a0 17) k1 2 f1, zVi (a0 19) k2 28 f2, zVi (a0 37) k3 14 f3, zVi (a0 39) k4 14 o.2.2.2.2.2.1, zVi (a0 20) k5 28 f5, zVi (a0 21) k6 28 f6, zVl (a0 31) k7 14 o.2.2.2.2.2.2.1, zVl (a0 22) k8 28 f8, zVl (a0 23) k9 28 f9, zVl (a0 32) k10 14 o.2.2.2.2.2.2.2.1, zVi (a0 14) k11 8 f11, zVl (a0 40) k12 14 o.2.2.2.2.2.2.2.2, zVi (a0 15) k13 8 f13, zVi (a0 26) k14 28 f14] [(k1, .int), (k2, .int), (k3, .int), (k4, .int), (k5, .int), (k6, .int), (k7, .long), (k8, .long), (k9, .long), (k10, .long), (k11, .int), (k12, .long), (k13, .int), (k14, .int)] sz := by
  refine zgoi (cc := cX12_widest) (maxL := 5) (ret := (some .int)) (C0 := RX12) (lv0 := [(0, .ref h0), (1, .int p1)]) zpl_X12 rfl rfl rfl (Nat.le_of_ble_eq_true rfl) ?_
  intro p e s m below meth c A ls Q hx hb hr hts hown hlocks hml hP hK hD hA hS hl hQ
  unfold fn_X12_widest at hfn
  refine lv_aload_n hx hb dX12_widest_0 rfl (lv_at hl 0 rfl) ?_
  refine lv_iload_n hx hb dX12_widest_1 rfl (lv_at hl 1 rfl) ?_
  obtain ⟨o_1, hqo_1, hfn⟩ := zb_s hfn
  refine zcVb (ci := 12) (rest := []) (pc' := 5) (ws' := [(h0, .inr (12, zO a0 b0 c0)), zVi (a0 17) k1 2 f1, zVi (a0 19) k2 28 f2, zVi (a0 37) k3 14 f3, zVi (a0 39) k4 14 f4, zVi (a0 20) k5 28 f5, zVi (a0 21) k6 28 f6, zVl (a0 31) k7 14 f7, zVl (a0 22) k8 28 f8, zVl (a0 23) k9 28 f9, zVl (a0 32) k10 14 f10, zVi (a0 14) k11 8 f11, zVl (a0 40) k12 14 f12, zVi (a0 15) k13 8 f13, zVi (a0 26) k14 28 f14]) hP hK hD hS hA ⟨hx, hb, hml, hown, hts⟩ (zf_X12_isNumber l dC dI h0 p1 a0 b0 c0 k1 f1 o_1 hqo_1 s.heap.size) (cwV 1 hts gX12_widest_X12_isNumber rfl rfl rfl zhd_X12_isNumber ⟨Nat.le_of_ble_eq_true rfl, Nat.le_of_ble_eq_true rfl⟩) [0, 1] rfl (of_decide_eq_true rfl) [0] rfl rfl rfl rfl hl.1 rfl (Nat.le_of_ble_eq_true rfl) dX12_widest_2 ⟨Nat.le_of_ble_eq_true rfl, Nat.le_of_ble_eq_true rfl⟩ [some 0, some 1] (of_decide_eq_true rfl) (of_decide_eq_true rfl) rfl rfl rfl (fun H locs hw_4n hP hD hS => ?_)
  refine lv_if_eq (tgt := 24) hx hb dX12_widest_5 (of_decide_eq_true rfl) (fun c_5 => ?_) (fun c_5 => ?_)
  · have hfn := (if_pos c_5).symm.trans hfn
    refine lv_iconst (v := (-1)) hx hb dX12_widest_24 zci_m1 ?_
    have ho := Option.some.inj hfn
    subst ho
    exact zri hx hb hr hK hP hD hS hQ rfl hlocks dX12_widest_25
  have hfn := (if_neg c_5).symm.trans hfn
  refine lv_aload_n hx hb dX12_widest_8 rfl (lv_at hl 0 rfl) ?_
  refine va_get (D := (dC, dI)) (ci := 12) (v := .ref (a0 19)) (C := RX12) (T := TX12) (N := 67) hx hb hts zn_X12_widest_X12 hown hK hP 0 rfl rfl 19 (of_decide_eq_true rfl) (hts (.fieldLink RX12 68 "ShortEnoughModel" "op" "[I") zw_X12_widest_1206) (fun _ h9 => h9) rfl dX12_widest_9 ?_
  refine lv_iload_n hx hb dX12_widest_12 rfl (lv_at hl 1 rfl) ?_
  obtain ⟨h_6, hfn⟩ := zg_s hfn
  refine va_iald hx hb hK hP 2 1 rfl rfl h_6 dX12_widest_13 ?_
  refine lv_if_ne (tgt := 24) hx hb dX12_widest_14 (of_decide_eq_true rfl) (fun c_7 => ?_) (fun c_7 => ?_)
  · have hfn := (if_neg c_7).symm.trans hfn
    refine lv_iconst (v := (-1)) hx hb dX12_widest_24 zci_m1 ?_
    have ho := Option.some.inj hfn
    subst ho
    exact zri hx hb hr hK hP hD hS hQ rfl hlocks dX12_widest_25
  have hfn := (if_pos c_7).symm.trans hfn
  refine lv_aload_n hx hb dX12_widest_17 rfl (lv_at hl 0 rfl) ?_
  obtain ⟨o_8, hqo_8, hfn⟩ := zb_s hfn
  refine zcVb (ci := 12) (rest := []) (pc' := 21) (ws' := [(h0, .inr (12, zO a0 (zI (zI (zI b0 33 o_8.2.1) 41 o_8.2.2.1) 42 o_8.2.2.2.1) c0)), zVi (a0 17) k1 2 f1, zVi (a0 19) k2 28 f2, zVi (a0 37) k3 14 f3, zVi (a0 39) k4 14 o_8.2.2.2.2.1, zVi (a0 20) k5 28 f5, zVi (a0 21) k6 28 f6, zVl (a0 31) k7 14 o_8.2.2.2.2.2.1, zVl (a0 22) k8 28 f8, zVl (a0 23) k9 28 f9, zVl (a0 32) k10 14 o_8.2.2.2.2.2.2.1, zVi (a0 14) k11 8 f11, zVl (a0 40) k12 14 o_8.2.2.2.2.2.2.2, zVi (a0 15) k13 8 f13, zVi (a0 26) k14 28 f14]) hP hK hD hS hA ⟨hx, hb, hml, hown, hts⟩ (zf_X12_handPasses l dC dI h0 a0 b0 c0 k1 f1 k3 f3 k4 f4 k2 f2 k5 f5 k6 f6 k7 f7 k8 f8 k9 f9 k10 f10 k11 f11 k12 f12 k13 f13 k14 f14 o_8 hqo_8 H.size) (cwV 0 hts gX12_widest_X12_handPasses rfl rfl rfl zhd_X12_handPasses ⟨Nat.le_of_ble_eq_true rfl, Nat.le_of_ble_eq_true rfl⟩) [0, 1, 3, 4, 2, 5, 6, 7, 8, 9, 10, 11, 12, 13, 14] rfl (of_decide_eq_true rfl) [0, 2, 3, 1, 4, 5, 6, 7, 8, 9, 10, 11, 12, 13] rfl rfl rfl rfl hl.1 rfl (Nat.le_of_ble_eq_true rfl) dX12_widest_18 ⟨Nat.le_of_ble_eq_true rfl, Nat.le_of_ble_eq_true rfl⟩ [some 0, some 1, some 4, some 2, some 3, some 5, some 6, some 7, some 8, some 9, some 10, some 11, some 12, some 13, some 14] (of_decide_eq_true rfl) (of_decide_eq_true rfl) rfl rfl rfl (fun H locs hw_11n hP hD hS => ?_)
  refine lv_if_ne (tgt := 26) hx hb dX12_widest_21 (of_decide_eq_true rfl) (fun c_12 => ?_) (fun c_12 => ?_)
  · have hfn := (if_neg c_12).symm.trans hfn
    refine lv_iconst (v := 0) hx hb dX12_widest_26 zci_0 ?_
    refine lv_istore_n (lv' := [(2, .int 0), (0, .ref h0), (1, .int p1)]) hx hb dX12_widest_27 rfl hl (of_decide_eq_true rfl) rfl (fun ls hl => ?_)
    refine lv_ldcw (v := 10000000) hx hb hown (hts (.constant RX12 458 (10000000)) zw_X12_widest_1207) dX12_widest_28 ?_
    refine lv_istore_n (lv' := [(3, .int 10000000), (2, .int 0), (0, .ref h0), (1, .int p1)]) hx hb dX12_widest_31 rfl hl (of_decide_eq_true rfl) rfl (fun ls hl => ?_)
    refine lv_aload_n hx hb dX12_widest_32 rfl (lv_at hl 2 rfl) ?_
    refine lv_iload_n hx hb dX12_widest_33 rfl (lv_at hl 3 rfl) ?_
    refine va_put (D := (dC, dI)) (ci := 12) (v := .int p1) (ty := .int) (C := RX12) (T := TX12) (N := 67) hx hb hts zn_X12_widest_X12 tyX12 tyX12_ok nmX12 hown hK hP hD hS 0 rfl rfl 33 (of_decide_eq_true rfl) (hts (.fieldLink RX12 112 "ShortEnoughModel" "wideNumber" "I") zw_X12_widest_1208) (fun _ h9 => h9) rfl (tyX12_ok 33 (of_decide_eq_true rfl)) rfl rfl (Nat.le_of_ble_eq_true rfl) dX12_widest_34 (fun H locs hP hD hS => ?_)
    have hP : va_P (dC, dI) vwCl [(h0, .inr (12, zO a0 (zI (zI (zI b0 33 p1) 41 o_8.2.2.1) 42 o_8.2.2.2.1) c0)), zVi (a0 17) k1 2 f1, zVi (a0 19) k2 28 f2, zVi (a0 37) k3 14 f3, zVi (a0 39) k4 14 o_8.2.2.2.2.1, zVi (a0 20) k5 28 f5, zVi (a0 21) k6 28 f6, zVl (a0 31) k7 14 o_8.2.2.2.2.2.1, zVl (a0 22) k8 28 f8, zVl (a0 23) k9 28 f9, zVl (a0 32) k10 14 o_8.2.2.2.2.2.2.1, zVi (a0 14) k11 8 f11, zVl (a0 40) k12 14 o_8.2.2.2.2.2.2.2, zVi (a0 15) k13 8 f13, zVi (a0 26) k14 28 f14] H := hP
    have hD := zDW hD hP rfl
    obtain ⟨bd_13, ebd_13, hfn⟩ := zl_g hfn
    have lp_13 : ∀ (n : Nat) (s_13 : Int32 × Int32 × Int64 × Int32 × Int32 × (Nat → Int64) × (Nat → Int64) × (Nat → Int64)) (H : Heap) (locs : List Loc) (ls : Array Slot), zl bd_13 n s_13 = some o → va_P (dC, dI) vwCl [(h0, .inr (12, zO a0 (zI (zI (zI b0 33 p1) 41 s_13.2.2.2.1) 42 s_13.2.2.2.2.1) (zJ c0 34 s_13.2.2.1))), zVi (a0 17) k1 2 f1, zVi (a0 19) k2 28 f2, zVi (a0 37) k3 14 f3, zVi (a0 39) k4 14 o_8.2.2.2.2.1, zVi (a0 20) k5 28 f5, zVi (a0 21) k6 28 f6, zVl (a0 31) k7 14 s_13.2.2.2.2.2.1, zVl (a0 22) k8 28 f8, zVl (a0 23) k9 28 f9, zVl (a0 32) k10 14 s_13.2.2.2.2.2.2.1, zVi (a0 14) k11 8 f11, zVl (a0 40) k12 14 s_13.2.2.2.2.2.2.2, zVi (a0 15) k13 8 f13, zVi (a0 26) k14 28 f14] H → va_D A [(h0, .inr (12, zO a0 (zI (zI (zI b0 33 p1) 41 s_13.2.2.2.1) 42 s_13.2.2.2.2.1) (zJ c0 34 s_13.2.2.1))), zVi (a0 17) k1 2 f1, zVi (a0 19) k2 28 f2, zVi (a0 37) k3 14 f3, zVi (a0 39) k4 14 o_8.2.2.2.2.1, zVi (a0 20) k5 28 f5, zVi (a0 21) k6 28 f6, zVl (a0 31) k7 14 s_13.2.2.2.2.2.1, zVl (a0 22) k8 28 f8, zVl (a0 23) k9 28 f9, zVl (a0 32) k10 14 s_13.2.2.2.2.2.2.1, zVi (a0 14) k11 8 f11, zVl (a0 40) k12 14 s_13.2.2.2.2.2.2.2, zVi (a0 15) k13 8 f13, zVi (a0 26) k14 28 f14] → va_S A s.heap H locs → lv_has ls 5 [(3, .int s_13.2.1), (2, .int s_13.1), (0, .ref h0)] → W p l e (headSpec wsX12_widest ({ frames := 6, cells := 0, slots := 0, locals := 154 })).room s m ([.ref h0, .int p1] : List Value).toArray below meth c H locs 0 0 Q (F0 m 37 ls []) := by
      intro n
      induction n with
      | zero => exact fun _ _ _ _ hfn => (zl_0 hfn).elim
      | succ n ih_13 =>
        intro s_13 H locs ls hfn hP hD hS hl
        have hfn := zl_s ebd_13 hfn
        refine lv_iload_n hx hb dX12_widest_37 rfl (lv_at hl 1 rfl) ?_
        refine lv_iload_n hx hb dX12_widest_38 rfl (lv_at hl 0 rfl) ?_
        refine lv_icmp_ge (tgt := 81) hx hb dX12_widest_39 (of_decide_eq_true rfl) (fun c_14 => ?_) (fun c_14 => ?_)
        · have hfn := (if_pos c_14).symm.trans hfn
          refine lv_aload_n hx hb dX12_widest_81 rfl (lv_at hl 2 rfl) ?_
          refine lv_iconst (v := (-1)) hx hb dX12_widest_82 zci_m1 ?_
          refine va_put (D := (dC, dI)) (ci := 12) (v := .int (-1)) (ty := .int) (C := RX12) (T := TX12) (N := 67) hx hb hts zn_X12_widest_X12 tyX12 tyX12_ok nmX12 hown hK hP hD hS 0 rfl rfl 33 (of_decide_eq_true rfl) (hts (.fieldLink RX12 112 "ShortEnoughModel" "wideNumber" "I") zw_X12_widest_1208) (fun _ h9 => h9) rfl (tyX12_ok 33 (of_decide_eq_true rfl)) rfl rfl (Nat.le_of_ble_eq_true rfl) dX12_widest_83 (fun H locs hP hD hS => ?_)
          have hP : va_P (dC, dI) vwCl [(h0, .inr (12, zO a0 (zI (zI (zI b0 33 (-1)) 41 s_13.2.2.2.1) 42 s_13.2.2.2.2.1) (zJ c0 34 s_13.2.2.1))), zVi (a0 17) k1 2 f1, zVi (a0 19) k2 28 f2, zVi (a0 37) k3 14 f3, zVi (a0 39) k4 14 o_8.2.2.2.2.1, zVi (a0 20) k5 28 f5, zVi (a0 21) k6 28 f6, zVl (a0 31) k7 14 s_13.2.2.2.2.2.1, zVl (a0 22) k8 28 f8, zVl (a0 23) k9 28 f9, zVl (a0 32) k10 14 s_13.2.2.2.2.2.2.1, zVi (a0 14) k11 8 f11, zVl (a0 40) k12 14 s_13.2.2.2.2.2.2.2, zVi (a0 15) k13 8 f13, zVi (a0 26) k14 28 f14] H := hP
          have hD := zDW hD hP rfl
          refine lv_iload_n hx hb dX12_widest_86 rfl (lv_at hl 1 rfl) ?_
          have ho := Option.some.inj hfn
          subst ho
          exact zri hx hb hr hK hP hD hS hQ rfl hlocks dX12_widest_87
        have hfn := (if_neg c_14).symm.trans hfn
        refine lv_iload_n hx hb dX12_widest_42 rfl (lv_at hl 1 rfl) ?_
        refine lv_iload_n hx hb dX12_widest_43 rfl (lv_at hl 0 rfl) ?_
        refine lv_iload_n hx hb dX12_widest_44 rfl (lv_at hl 1 rfl) ?_
        refine lv_isub hx hb dX12_widest_45 ?_
        refine lv_iconst (v := 1) hx hb dX12_widest_46 zci_1 ?_
        refine lv_iadd hx hb dX12_widest_47 ?_
        refine lv_iconst (v := 2) hx hb dX12_widest_48 zci_2 ?_
        refine lv_idiv hx hb dX12_widest_49 (by decide +kernel) ?_
        refine lv_iadd hx hb dX12_widest_50 ?_
        refine lv_istore (lv' := [(4, .int (s_13.1 + (((s_13.2.1 - s_13.1) + 1) / 2))), (3, .int s_13.2.1), (2, .int s_13.1), (0, .ref h0)]) hx hb dX12_widest_51 hl (of_decide_eq_true rfl) rfl (fun ls hl => ?_)
        refine lv_aload_n hx hb dX12_widest_53 rfl (lv_at hl 3 rfl) ?_
        refine lv_iload hx hb dX12_widest_54 (lv_at hl 0 rfl) ?_
        refine lv_i2l (v := (s_13.1 + (((s_13.2.1 - s_13.1) + 1) / 2)).toInt64) hx hb dX12_widest_56 rfl ?_
        refine va_put (D := (dC, dI)) (ci := 12) (v := .long (s_13.1 + (((s_13.2.1 - s_13.1) + 1) / 2)).toInt64) (ty := .long) (C := RX12) (T := TX12) (N := 67) hx hb hts zn_X12_widest_X12 tyX12 tyX12_ok nmX12 hown hK hP hD hS 0 rfl rfl 34 (of_decide_eq_true rfl) (hts (.fieldLink RX12 115 "ShortEnoughModel" "wideBy" "J") zw_X12_widest_1209) (fun _ h9 => h9) rfl (tyX12_ok 34 (of_decide_eq_true rfl)) rfl rfl (Nat.le_of_ble_eq_true rfl) dX12_widest_57 (fun H locs hP hD hS => ?_)
        have hP : va_P (dC, dI) vwCl [(h0, .inr (12, zO a0 (zI (zI (zI b0 33 p1) 41 s_13.2.2.2.1) 42 s_13.2.2.2.2.1) (zJ c0 34 (s_13.1 + (((s_13.2.1 - s_13.1) + 1) / 2)).toInt64))), zVi (a0 17) k1 2 f1, zVi (a0 19) k2 28 f2, zVi (a0 37) k3 14 f3, zVi (a0 39) k4 14 o_8.2.2.2.2.1, zVi (a0 20) k5 28 f5, zVi (a0 21) k6 28 f6, zVl (a0 31) k7 14 s_13.2.2.2.2.2.1, zVl (a0 22) k8 28 f8, zVl (a0 23) k9 28 f9, zVl (a0 32) k10 14 s_13.2.2.2.2.2.2.1, zVi (a0 14) k11 8 f11, zVl (a0 40) k12 14 s_13.2.2.2.2.2.2.2, zVi (a0 15) k13 8 f13, zVi (a0 26) k14 28 f14] H := hP
        have hD := zDW hD hP rfl
        refine lv_aload_n hx hb dX12_widest_60 rfl (lv_at hl 3 rfl) ?_
        obtain ⟨o_15, hqo_15, hfn⟩ := zb_s hfn
        refine zcVb (ci := 12) (rest := []) (pc' := 64) (ws' := [(h0, .inr (12, zO a0 (zI (zI (zI b0 33 p1) 41 o_15.2.1) 42 o_15.2.2.1) (zJ c0 34 (s_13.1 + (((s_13.2.1 - s_13.1) + 1) / 2)).toInt64))), zVi (a0 17) k1 2 f1, zVi (a0 19) k2 28 f2, zVi (a0 37) k3 14 f3, zVi (a0 39) k4 14 o_8.2.2.2.2.1, zVi (a0 20) k5 28 f5, zVi (a0 21) k6 28 f6, zVl (a0 31) k7 14 o_15.2.2.2.1, zVl (a0 22) k8 28 f8, zVl (a0 23) k9 28 f9, zVl (a0 32) k10 14 o_15.2.2.2.2.1, zVi (a0 14) k11 8 f11, zVl (a0 40) k12 14 o_15.2.2.2.2.2, zVi (a0 15) k13 8 f13, zVi (a0 26) k14 28 f14]) hP hK hD hS hA ⟨hx, hb, hml, hown, hts⟩ (zf_X12_passes l dC dI h0 a0 (zI (zI (zI b0 33 p1) 41 s_13.2.2.2.1) 42 s_13.2.2.2.2.1) (zJ c0 34 (s_13.1 + (((s_13.2.1 - s_13.1) + 1) / 2)).toInt64) k1 f1 k2 f2 k5 f5 k6 f6 k7 s_13.2.2.2.2.2.1 k8 f8 k9 f9 k10 s_13.2.2.2.2.2.2.1 k4 o_8.2.2.2.2.1 k11 f11 k12 s_13.2.2.2.2.2.2.2 k13 f13 k14 f14 o_15 hqo_15 H.size) (cwV 0 hts gX12_widest_X12_passes rfl rfl rfl zhd_X12_passes ⟨Nat.le_of_ble_eq_true rfl, Nat.le_of_ble_eq_true rfl⟩) [0, 1, 2, 5, 6, 7, 8, 9, 10, 4, 11, 12, 13, 14] rfl (of_decide_eq_true rfl) [0, 1, 4, 5, 6, 7, 8, 9, 3, 10, 11, 12, 13] rfl rfl rfl rfl hl.1 rfl (Nat.le_of_ble_eq_true rfl) dX12_widest_61 ⟨Nat.le_of_ble_eq_true rfl, Nat.le_of_ble_eq_true rfl⟩ [some 0, some 1, some 2, none, some 9, some 3, some 4, some 5, some 6, some 7, some 8, some 10, some 11, some 12, some 13] (of_decide_eq_true rfl) (of_decide_eq_true rfl) rfl rfl rfl (fun H locs hw_18n hP hD hS => ?_)
        refine lv_if_eq (tgt := 73) hx hb dX12_widest_64 (of_decide_eq_true rfl) (fun c_19 => ?_) (fun c_19 => ?_)
        · have hfn := (if_pos c_19).symm.trans hfn
          refine lv_iload hx hb dX12_widest_73 (lv_at hl 0 rfl) ?_
          refine lv_iconst (v := 1) hx hb dX12_widest_75 zci_1 ?_
          refine lv_isub hx hb dX12_widest_76 ?_
          refine lv_istore_n (lv' := [(3, .int ((s_13.1 + (((s_13.2.1 - s_13.1) + 1) / 2)) - 1)), (4, .int (s_13.1 + (((s_13.2.1 - s_13.1) + 1) / 2))), (2, .int s_13.1), (0, .ref h0)]) hx hb dX12_widest_77 rfl hl (of_decide_eq_true rfl) rfl (fun ls hl => ?_)
          refine lv_goto (tgt := 37) hx hb dX12_widest_78 (of_decide_eq_true rfl) ?_
          exact ih_13 (s_13.1, ((s_13.1 + (((s_13.2.1 - s_13.1) + 1) / 2)) - 1), (s_13.1 + (((s_13.2.1 - s_13.1) + 1) / 2)).toInt64, o_15.2.1, o_15.2.2.1, o_15.2.2.2.1, o_15.2.2.2.2.1, o_15.2.2.2.2.2) H locs ls hfn hP hD hS (lv_sub hl [0, 2, 3] rfl)
        have hfn := (if_neg c_19).symm.trans hfn
        refine lv_iload hx hb dX12_widest_67 (lv_at hl 0 rfl) ?_
        refine lv_istore_n (lv' := [(2, .int (s_13.1 + (((s_13.2.1 - s_13.1) + 1) / 2))), (4, .int (s_13.1 + (((s_13.2.1 - s_13.1) + 1) / 2))), (3, .int s_13.2.1), (0, .ref h0)]) hx hb dX12_widest_69 rfl hl (of_decide_eq_true rfl) rfl (fun ls hl => ?_)
        refine lv_goto (tgt := 78) hx hb dX12_widest_70 (of_decide_eq_true rfl) ?_
        refine lv_goto (tgt := 37) hx hb dX12_widest_78 (of_decide_eq_true rfl) ?_
        exact ih_13 ((s_13.1 + (((s_13.2.1 - s_13.1) + 1) / 2)), s_13.2.1, (s_13.1 + (((s_13.2.1 - s_13.1) + 1) / 2)).toInt64, o_15.2.1, o_15.2.2.1, o_15.2.2.2.1, o_15.2.2.2.2.1, o_15.2.2.2.2.2) H locs ls hfn hP hD hS (lv_sub hl [2, 0, 3] rfl)
    exact lp_13 _ (0, 10000000, (c0 34), o_8.2.2.1, o_8.2.2.2.1, o_8.2.2.2.2.2.1, o_8.2.2.2.2.2.2.1, o_8.2.2.2.2.2.2.2) H locs ls hfn hP hD hS (lv_sub hl [0, 1, 2] rfl)
  have hfn := (if_pos c_12).symm.trans hfn
  refine lv_iconst (v := (-1)) hx hb dX12_widest_24 zci_m1 ?_
  have ho := Option.some.inj hfn
  subst ho
  exact zri hx hb hr hK hP hD hS hQ rfl hlocks dX12_widest_25
theorem zn_X12_finest_X12 : ∀ w ∈ wsX120, w ∈ wsX12_finest := fun _ h => List.mem_cons_of_mem _ (List.mem_append_right _ h)
theorem zw_X12_finest_1211 : Cond.fieldLink RX12 47 "ShortEnoughModel" "formats" "[I" ∈ wsX12_finest := List.mem_of_getElem? (i := 1) (by decide +kernel)
theorem zw_X12_finest_1212 : Cond.fieldLink RX12 53 "ShortEnoughModel" "step" "[I" ∈ wsX12_finest := List.mem_of_getElem? (i := 2) (by decide +kernel)
set_option maxHeartbeats 4000000 in
set_option maxRecDepth 100000 in
theorem zf_X12_finest (l : Launch) (dC : Nat → ClassId) (dI : Nat → Nat → Nat) (h0 : Nat) (a0 : Nat → Nat) (b0 : Nat → Int32) (c0 : Nat → Int64) (k1 : Nat) (f1 : Nat → Int32) (k2 : Nat) (f2 : Nat → Int32) (o : Int32) (hfn : fn_X12_finest f1 f2 = some o) (sz : Nat) : zMi l yX12_finest wsX12_finest ({ frames := 0, cells := 0, slots := 0, locals := 0 }) (dC, dI) vwCl [.ref h0] [(h0, .inr (12, zO a0 b0 c0)), zVi (a0 12) k1 2 f1, zVi (a0 14) k2 8 f2] [(k1, .int), (k2, .int)] (fun r _ => r = o) [(h0, .inr (12, zO a0 b0 c0)), zVi (a0 12) k1 2 f1, zVi (a0 14) k2 8 f2] [(k1, .int), (k2, .int)] sz := by
  refine zgoi (cc := cX12_finest) (maxL := 3) (ret := (some .int)) (C0 := RX12) (lv0 := [(0, .ref h0)]) zpl_X12 rfl rfl rfl (Nat.le_of_ble_eq_true rfl) ?_
  intro p e s m below meth c A ls Q hx hb hr hts hown hlocks hml hP hK hD hA hS hl hQ
  unfold fn_X12_finest at hfn
  refine lv_iconst (v := 0) hx hb dX12_finest_0 zci_0 ?_
  refine lv_istore_n (lv' := [(1, .int 0), (0, .ref h0)]) hx hb dX12_finest_1 rfl hl (of_decide_eq_true rfl) rfl (fun ls hl => ?_)
  refine lv_iconst (v := 1) hx hb dX12_finest_2 zci_1 ?_
  refine lv_istore_n (lv' := [(2, .int 1), (1, .int 0), (0, .ref h0)]) hx hb dX12_finest_3 rfl hl (of_decide_eq_true rfl) rfl (fun ls hl => ?_)
  obtain ⟨bd_1, ebd_1, hfn⟩ := zl_g hfn
  have lp_1 : ∀ (n : Nat) (s_1 : Int32 × Int32) (H : Heap) (locs : List Loc) (ls : Array Slot), zl bd_1 n s_1 = some o → va_P (dC, dI) vwCl [(h0, .inr (12, zO a0 b0 c0)), zVi (a0 12) k1 2 f1, zVi (a0 14) k2 8 f2] H → va_D A [(h0, .inr (12, zO a0 b0 c0)), zVi (a0 12) k1 2 f1, zVi (a0 14) k2 8 f2] → va_S A s.heap H locs → lv_has ls 3 [(2, .int s_1.2), (1, .int s_1.1), (0, .ref h0)] → W p l e (headSpec wsX12_finest ({ frames := 0, cells := 0, slots := 0, locals := 0 })).room s m ([.ref h0] : List Value).toArray below meth c H locs 0 0 Q (F0 m 4 ls []) := by
    intro n
    induction n with
    | zero => exact fun _ _ _ _ hfn => (zl_0 hfn).elim
    | succ n ih_1 =>
      intro s_1 H locs ls hfn hP hD hS hl
      have hfn := zl_s ebd_1 hfn
      refine lv_iload_n hx hb dX12_finest_4 rfl (lv_at hl 0 rfl) ?_
      refine lv_aload_n hx hb dX12_finest_5 rfl (lv_at hl 2 rfl) ?_
      refine va_get (D := (dC, dI)) (ci := 12) (v := .ref (a0 12)) (C := RX12) (T := TX12) (N := 67) hx hb hts zn_X12_finest_X12 hown hK hP 0 rfl rfl 12 (of_decide_eq_true rfl) (hts (.fieldLink RX12 47 "ShortEnoughModel" "formats" "[I") zw_X12_finest_1211) (fun _ h9 => h9) rfl dX12_finest_6 ?_
      refine lv_iconst (v := 0) hx hb dX12_finest_9 zci_0 ?_
      refine va_iald hx hb hK hP 1 0 rfl rfl (zv_in (by decide +kernel)) dX12_finest_10 ?_
      refine lv_icmp_ge (tgt := 37) hx hb dX12_finest_11 (of_decide_eq_true rfl) (fun c_2 => ?_) (fun c_2 => ?_)
      · have hfn := (if_pos c_2).symm.trans hfn
        refine lv_iload_n hx hb dX12_finest_37 rfl (lv_at hl 1 rfl) ?_
        have ho := Option.some.inj hfn
        subst ho
        exact zri hx hb hr hK hP hD hS hQ rfl hlocks dX12_finest_38
      have hfn := (if_neg c_2).symm.trans hfn
      refine lv_aload_n hx hb dX12_finest_14 rfl (lv_at hl 2 rfl) ?_
      refine va_get (D := (dC, dI)) (ci := 12) (v := .ref (a0 14)) (C := RX12) (T := TX12) (N := 67) hx hb hts zn_X12_finest_X12 hown hK hP 0 rfl rfl 14 (of_decide_eq_true rfl) (hts (.fieldLink RX12 53 "ShortEnoughModel" "step" "[I") zw_X12_finest_1212) (fun _ h9 => h9) rfl dX12_finest_15 ?_
      refine lv_iload_n hx hb dX12_finest_18 rfl (lv_at hl 0 rfl) ?_
      obtain ⟨h_3, hfn⟩ := zg_s hfn
      refine va_iald hx hb hK hP 2 1 rfl rfl h_3 dX12_finest_19 ?_
      refine lv_aload_n hx hb dX12_finest_20 rfl (lv_at hl 2 rfl) ?_
      refine va_get (D := (dC, dI)) (ci := 12) (v := .ref (a0 14)) (C := RX12) (T := TX12) (N := 67) hx hb hts zn_X12_finest_X12 hown hK hP 0 rfl rfl 14 (of_decide_eq_true rfl) (hts (.fieldLink RX12 53 "ShortEnoughModel" "step" "[I") zw_X12_finest_1212) (fun _ h9 => h9) rfl dX12_finest_21 ?_
      refine lv_iload_n hx hb dX12_finest_24 rfl (lv_at hl 1 rfl) ?_
      obtain ⟨h_4, hfn⟩ := zg_s hfn
      refine va_iald hx hb hK hP 2 1 rfl rfl h_4 dX12_finest_25 ?_
      refine lv_icmp_ge (tgt := 31) hx hb dX12_finest_26 (of_decide_eq_true rfl) (fun c_5 => ?_) (fun c_5 => ?_)
      · have hfn := (if_pos c_5).symm.trans hfn
        refine lv_iinc (v := (s_1.2 + 1)) (lv' := [(2, .int (s_1.2 + 1)), (1, .int s_1.1), (0, .ref h0)]) hx hb dX12_finest_31 hl (k := 0) rfl rfl (of_decide_eq_true rfl) rfl (fun ls hl => ?_)
        refine lv_goto (tgt := 4) hx hb dX12_finest_34 (of_decide_eq_true rfl) ?_
        exact ih_1 (s_1.1, (s_1.2 + 1)) H locs ls hfn hP hD hS (lv_sub hl [0, 1, 2] rfl)
      have hfn := (if_neg c_5).symm.trans hfn
      refine lv_iload_n hx hb dX12_finest_29 rfl (lv_at hl 0 rfl) ?_
      refine lv_istore_n (lv' := [(1, .int s_1.2), (2, .int s_1.2), (0, .ref h0)]) hx hb dX12_finest_30 rfl hl (of_decide_eq_true rfl) rfl (fun ls hl => ?_)
      refine lv_iinc (v := (s_1.2 + 1)) (lv' := [(2, .int (s_1.2 + 1)), (1, .int s_1.2), (0, .ref h0)]) hx hb dX12_finest_31 hl (k := 1) rfl rfl (of_decide_eq_true rfl) rfl (fun ls hl => ?_)
      refine lv_goto (tgt := 4) hx hb dX12_finest_34 (of_decide_eq_true rfl) ?_
      exact ih_1 (s_1.2, (s_1.2 + 1)) H locs ls hfn hP hD hS (lv_sub hl [0, 1, 2] rfl)
  exact lp_1 _ (0, 1) s.heap [] ls hfn hP hD hS (lv_sub hl [0, 1, 2] rfl)
theorem zw_X12_blame_1213 : Cond.constantLong RX12 381 (-1000000000000000) ∈ wsX12_blame := List.mem_of_getElem? (i := 2) (by decide +kernel)
theorem zn_X12_blame_X12 : ∀ w ∈ wsX120, w ∈ wsX12_blame := fun _ h => List.mem_cons_of_mem _ (List.mem_append_right _ h)
theorem zw_X12_blame_1215 : Cond.fieldLink RX12 93 "ShortEnoughModel" "groupOf" "[I" ∈ wsX12_blame := List.mem_of_getElem? (i := 1) (by decide +kernel)
theorem zw_X12_blame_1216 : Cond.fieldLink RX12 135 "ShortEnoughModel" "error" "[J" ∈ wsX12_blame := List.mem_of_getElem? (i := 3) (by decide +kernel)
set_option maxHeartbeats 4000000 in
set_option maxRecDepth 100000 in
theorem zf_X12_blame (l : Launch) (dC : Nat → ClassId) (dI : Nat → Nat → Nat) (h0 : Nat) (p1 : Int32) (p2 : Int32) (a0 : Nat → Nat) (b0 : Nat → Int32) (c0 : Nat → Int64) (k1 : Nat) (f1 : Nat → Int32) (k2 : Nat) (f2 : Nat → Int32) (k3 : Nat) (f3 : Nat → Int32) (k4 : Nat) (f4 : Nat → Int32) (k5 : Nat) (f5 : Nat → Int32) (k6 : Nat) (f6 : Nat → Int32) (k7 : Nat) (f7 : Nat → Int32) (k8 : Nat) (f8 : Nat → Int32) (k9 : Nat) (f9 : Nat → Int32) (k10 : Nat) (f10 : Nat → Int64) (k11 : Nat) (f11 : Nat → Int64) (k12 : Nat) (f12 : Nat → Int64) (k13 : Nat) (f13 : Nat → Int64) (k14 : Nat) (f14 : Nat → Int32) (k15 : Nat) (f15 : Nat → Int64) (k16 : Nat) (f16 : Nat → Int32) (k17 : Nat) (f17 : Nat → Int32) (o : Int64 × Int32 × Int32 × Int32 × (Nat → Int32) × (Nat → Int64) × (Nat → Int64) × (Nat → Int64)) (hfn : fn_X12_blame p1 p2 (b0 33) (c0 34) (b0 38) (b0 41) (b0 42) f1 f2 f3 f4 f5 f6 f7 f8 f9 f10 f11 f12 f13 f14 f15 f16 f17 = some o) (sz : Nat) : zMl l yX12_blame wsX12_blame ({ frames := 6, cells := 0, slots := 0, locals := 154 }) (dC, dI) vwCl [.ref h0, .int p1, .int p2] [(h0, .inr (12, zO a0 b0 c0)), zVi (a0 17) k1 2 f1, zVi (a0 26) k2 28 f2, zVi (a0 27) k3 28 f3, zVi (a0 25) k4 28 f4, zVi (a0 37) k5 14 f5, zVi (a0 39) k6 14 f6, zVi (a0 19) k7 28 f7, zVi (a0 20) k8 28 f8, zVi (a0 21) k9 28 f9, zVl (a0 31) k10 14 f10, zVl (a0 22) k11 28 f11, zVl (a0 23) k12 28 f12, zVl (a0 32) k13 14 f13, zVi (a0 14) k14 8 f14, zVl (a0 40) k15 14 f15, zVi (a0 15) k16 8 f16, zVi (a0 12) k17 2 f17] [(k1, .int), (k2, .int), (k3, .int), (k4, .int), (k5, .int), (k6, .int), (k7, .int), (k8, .int), (k9, .int), (k10, .long), (k11, .long), (k12, .long), (k13, .long), (k14, .int), (k15, .long), (k16, .int), (k17, .int)] (fun r _ => r = o.1) [(h0, .inr (12, zO a0 (zI (zI (zI b0 33 o.2.1) 41 o.2.2.1) 42 o.2.2.2.1) c0)), zVi (a0 17) k1 2 f1, zVi (a0 26) k2 28 f2, zVi (a0 27) k3 28 f3, zVi (a0 25) k4 28 f4, zVi (a0 37) k5 14 f5, zVi (a0 39) k6 14 o.2.2.2.2.1, zVi (a0 19) k7 28 f7, zVi (a0 20) k8 28 f8, zVi (a0 21) k9 28 f9, zVl (a0 31) k10 14 o.2.2.2.2.2.1, zVl (a0 22) k11 28 f11, zVl (a0 23) k12 28 f12, zVl (a0 32) k13 14 o.2.2.2.2.2.2.1, zVi (a0 14) k14 8 f14, zVl (a0 40) k15 14 o.2.2.2.2.2.2.2, zVi (a0 15) k16 8 f16, zVi (a0 12) k17 2 f17] [(k1, .int), (k2, .int), (k3, .int), (k4, .int), (k5, .int), (k6, .int), (k7, .int), (k8, .int), (k9, .int), (k10, .long), (k11, .long), (k12, .long), (k13, .long), (k14, .int), (k15, .long), (k16, .int), (k17, .int)] sz := by
  refine zgol (cc := cX12_blame) (maxL := 5) (ret := (some .long)) (C0 := RX12) (lv0 := [(0, .ref h0), (1, .int p1), (2, .int p2)]) zpl_X12 rfl rfl rfl (Nat.le_of_ble_eq_true rfl) ?_
  intro p e s m below meth c A ls Q hx hb hr hts hown hlocks hml hP hK hD hA hS hl hQ
  unfold fn_X12_blame at hfn
  refine lv_aload_n hx hb dX12_blame_0 rfl (lv_at hl 0 rfl) ?_
  refine lv_iload_n hx hb dX12_blame_1 rfl (lv_at hl 1 rfl) ?_
  obtain ⟨o_1, hqo_1, hfn⟩ := zb_s hfn
  refine zcVb (ci := 12) (rest := []) (pc' := 5) (ws' := [(h0, .inr (12, zO a0 b0 c0)), zVi (a0 17) k1 2 f1, zVi (a0 26) k2 28 f2, zVi (a0 27) k3 28 f3, zVi (a0 25) k4 28 f4, zVi (a0 37) k5 14 f5, zVi (a0 39) k6 14 f6, zVi (a0 19) k7 28 f7, zVi (a0 20) k8 28 f8, zVi (a0 21) k9 28 f9, zVl (a0 31) k10 14 f10, zVl (a0 22) k11 28 f11, zVl (a0 23) k12 28 f12, zVl (a0 32) k13 14 f13, zVi (a0 14) k14 8 f14, zVl (a0 40) k15 14 f15, zVi (a0 15) k16 8 f16, zVi (a0 12) k17 2 f17]) hP hK hD hS hA ⟨hx, hb, hml, hown, hts⟩ (zf_X12_isAnswer l dC dI h0 p1 a0 b0 c0 k1 f1 k2 f2 o_1 hqo_1 s.heap.size) (cwV 1 hts gX12_blame_X12_isAnswer rfl rfl rfl zhd_X12_isAnswer ⟨Nat.le_of_ble_eq_true rfl, Nat.le_of_ble_eq_true rfl⟩) [0, 1, 2] rfl (of_decide_eq_true rfl) [0, 1] rfl rfl rfl rfl hl.1 rfl (Nat.le_of_ble_eq_true rfl) dX12_blame_2 ⟨Nat.le_of_ble_eq_true rfl, Nat.le_of_ble_eq_true rfl⟩ [some 0, some 1, some 2] (of_decide_eq_true rfl) (of_decide_eq_true rfl) rfl rfl rfl (fun H locs hw_4n hP hD hS => ?_)
  refine lv_if_eq (tgt := 36) hx hb dX12_blame_5 (of_decide_eq_true rfl) (fun c_5 => ?_) (fun c_5 => ?_)
  · have hfn := (if_pos c_5).symm.trans hfn
    refine lv_ldc2 (v := (-1000000000000000)) hx hb hown (hts (.constantLong RX12 381 (-1000000000000000)) zw_X12_blame_1213) dX12_blame_36 ?_
    have ho := Option.some.inj hfn
    subst ho
    exact zrl hx hb hr hK hP hD hS hQ rfl hlocks dX12_blame_39
  have hfn := (if_neg c_5).symm.trans hfn
  refine lv_aload_n hx hb dX12_blame_8 rfl (lv_at hl 0 rfl) ?_
  refine lv_iload_n hx hb dX12_blame_9 rfl (lv_at hl 2 rfl) ?_
  obtain ⟨o_6, hqo_6, hfn⟩ := zb_s hfn
  refine zcVb (ci := 12) (rest := []) (pc' := 13) (ws' := [(h0, .inr (12, zO a0 b0 c0)), zVi (a0 17) k1 2 f1, zVi (a0 26) k2 28 f2, zVi (a0 27) k3 28 f3, zVi (a0 25) k4 28 f4, zVi (a0 37) k5 14 f5, zVi (a0 39) k6 14 f6, zVi (a0 19) k7 28 f7, zVi (a0 20) k8 28 f8, zVi (a0 21) k9 28 f9, zVl (a0 31) k10 14 f10, zVl (a0 22) k11 28 f11, zVl (a0 23) k12 28 f12, zVl (a0 32) k13 14 f13, zVi (a0 14) k14 8 f14, zVl (a0 40) k15 14 f15, zVi (a0 15) k16 8 f16, zVi (a0 12) k17 2 f17]) hP hK hD hS hA ⟨hx, hb, hml, hown, hts⟩ (zf_X12_isNumber l dC dI h0 p2 a0 b0 c0 k1 f1 o_6 hqo_6 H.size) (cwV 1 hts gX12_blame_X12_isNumber rfl rfl rfl zhd_X12_isNumber ⟨Nat.le_of_ble_eq_true rfl, Nat.le_of_ble_eq_true rfl⟩) [0, 1] rfl (of_decide_eq_true rfl) [0] rfl rfl rfl rfl hl.1 rfl (Nat.le_of_ble_eq_true rfl) dX12_blame_10 ⟨Nat.le_of_ble_eq_true rfl, Nat.le_of_ble_eq_true rfl⟩ [some 0, some 1] (of_decide_eq_true rfl) (of_decide_eq_true rfl) rfl rfl rfl (fun H locs hw_9n hP hD hS => ?_)
  refine lv_if_eq (tgt := 36) hx hb dX12_blame_13 (of_decide_eq_true rfl) (fun c_10 => ?_) (fun c_10 => ?_)
  · have hfn := (if_pos c_10).symm.trans hfn
    refine lv_ldc2 (v := (-1000000000000000)) hx hb hown (hts (.constantLong RX12 381 (-1000000000000000)) zw_X12_blame_1213) dX12_blame_36 ?_
    have ho := Option.some.inj hfn
    subst ho
    exact zrl hx hb hr hK hP hD hS hQ rfl hlocks dX12_blame_39
  have hfn := (if_neg c_10).symm.trans hfn
  refine lv_aload_n hx hb dX12_blame_16 rfl (lv_at hl 0 rfl) ?_
  refine lv_aload_n hx hb dX12_blame_17 rfl (lv_at hl 0 rfl) ?_
  refine va_get (D := (dC, dI)) (ci := 12) (v := .ref (a0 27)) (C := RX12) (T := TX12) (N := 67) hx hb hts zn_X12_blame_X12 hown hK hP 0 rfl rfl 27 (of_decide_eq_true rfl) (hts (.fieldLink RX12 93 "ShortEnoughModel" "groupOf" "[I") zw_X12_blame_1215) (fun _ h9 => h9) rfl dX12_blame_18 ?_
  refine lv_iload_n hx hb dX12_blame_21 rfl (lv_at hl 2 rfl) ?_
  obtain ⟨h_11, hfn⟩ := zg_s hfn
  refine va_iald hx hb hK hP 3 2 rfl rfl h_11 dX12_blame_22 ?_
  obtain ⟨o_12, hqo_12, hfn⟩ := zb_s hfn
  refine zcVb (ci := 12) (rest := []) (pc' := 26) (ws' := [(h0, .inr (12, zO a0 b0 c0)), zVi (a0 17) k1 2 f1, zVi (a0 26) k2 28 f2, zVi (a0 27) k3 28 f3, zVi (a0 25) k4 28 f4, zVi (a0 37) k5 14 f5, zVi (a0 39) k6 14 f6, zVi (a0 19) k7 28 f7, zVi (a0 20) k8 28 f8, zVi (a0 21) k9 28 f9, zVl (a0 31) k10 14 f10, zVl (a0 22) k11 28 f11, zVl (a0 23) k12 28 f12, zVl (a0 32) k13 14 f13, zVi (a0 14) k14 8 f14, zVl (a0 40) k15 14 f15, zVi (a0 15) k16 8 f16, zVi (a0 12) k17 2 f17]) hP hK hD hS hA ⟨hx, hb, hml, hown, hts⟩ (zf_X12_isFree l dC dI h0 (f3 p2.toNatClampNeg) a0 b0 c0 k1 f1 k3 f3 k4 f4 o_12 hqo_12 H.size) (cwV 1 hts gX12_blame_X12_isFree rfl rfl rfl zhd_X12_isFree ⟨Nat.le_of_ble_eq_true rfl, Nat.le_of_ble_eq_true rfl⟩) [0, 1, 3, 4] rfl (of_decide_eq_true rfl) [0, 2, 3] rfl rfl rfl rfl hl.1 rfl (Nat.le_of_ble_eq_true rfl) dX12_blame_23 ⟨Nat.le_of_ble_eq_true rfl, Nat.le_of_ble_eq_true rfl⟩ [some 0, some 1, none, some 2, some 3] (of_decide_eq_true rfl) (of_decide_eq_true rfl) rfl rfl rfl (fun H locs hw_15n hP hD hS => ?_)
  refine lv_if_eq (tgt := 36) hx hb dX12_blame_26 (of_decide_eq_true rfl) (fun c_16 => ?_) (fun c_16 => ?_)
  · have hfn := (if_pos c_16).symm.trans hfn
    refine lv_ldc2 (v := (-1000000000000000)) hx hb hown (hts (.constantLong RX12 381 (-1000000000000000)) zw_X12_blame_1213) dX12_blame_36 ?_
    have ho := Option.some.inj hfn
    subst ho
    exact zrl hx hb hr hK hP hD hS hQ rfl hlocks dX12_blame_39
  have hfn := (if_neg c_16).symm.trans hfn
  refine lv_aload_n hx hb dX12_blame_29 rfl (lv_at hl 0 rfl) ?_
  obtain ⟨o_17, hqo_17, hfn⟩ := zb_s hfn
  refine zcVb (ci := 12) (rest := []) (pc' := 33) (ws' := [(h0, .inr (12, zO a0 (zI (zI (zI b0 33 o_17.2.1) 41 o_17.2.2.1) 42 o_17.2.2.2.1) c0)), zVi (a0 17) k1 2 f1, zVi (a0 26) k2 28 f2, zVi (a0 27) k3 28 f3, zVi (a0 25) k4 28 f4, zVi (a0 37) k5 14 f5, zVi (a0 39) k6 14 o_17.2.2.2.2.1, zVi (a0 19) k7 28 f7, zVi (a0 20) k8 28 f8, zVi (a0 21) k9 28 f9, zVl (a0 31) k10 14 o_17.2.2.2.2.2.1, zVl (a0 22) k11 28 f11, zVl (a0 23) k12 28 f12, zVl (a0 32) k13 14 o_17.2.2.2.2.2.2.1, zVi (a0 14) k14 8 f14, zVl (a0 40) k15 14 o_17.2.2.2.2.2.2.2, zVi (a0 15) k16 8 f16, zVi (a0 12) k17 2 f17]) hP hK hD hS hA ⟨hx, hb, hml, hown, hts⟩ (zf_X12_handPasses l dC dI h0 a0 b0 c0 k1 f1 k5 f5 k6 f6 k7 f7 k8 f8 k9 f9 k10 f10 k11 f11 k12 f12 k13 f13 k14 f14 k15 f15 k16 f16 k2 f2 o_17 hqo_17 H.size) (cwV 0 hts gX12_blame_X12_handPasses rfl rfl rfl zhd_X12_handPasses ⟨Nat.le_of_ble_eq_true rfl, Nat.le_of_ble_eq_true rfl⟩) [0, 1, 5, 6, 7, 8, 9, 10, 11, 12, 13, 14, 15, 16, 2] rfl (of_decide_eq_true rfl) [0, 4, 5, 6, 7, 8, 9, 10, 11, 12, 13, 14, 15, 1] rfl rfl rfl rfl hl.1 rfl (Nat.le_of_ble_eq_true rfl) dX12_blame_30 ⟨Nat.le_of_ble_eq_true rfl, Nat.le_of_ble_eq_true rfl⟩ [some 0, some 1, some 14, none, none, some 2, some 3, some 4, some 5, some 6, some 7, some 8, some 9, some 10, some 11, some 12, some 13] (of_decide_eq_true rfl) (of_decide_eq_true rfl) rfl rfl rfl (fun H locs hw_20n hP hD hS => ?_)
  refine lv_if_ne (tgt := 40) hx hb dX12_blame_33 (of_decide_eq_true rfl) (fun c_21 => ?_) (fun c_21 => ?_)
  · have hfn := (if_neg c_21).symm.trans hfn
    refine lv_aload_n hx hb dX12_blame_40 rfl (lv_at hl 0 rfl) ?_
    refine va_get (D := (dC, dI)) (ci := 12) (v := .ref (a0 40)) (C := RX12) (T := TX12) (N := 67) hx hb hts zn_X12_blame_X12 hown hK hP 0 rfl rfl 40 (of_decide_eq_true rfl) (hts (.fieldLink RX12 135 "ShortEnoughModel" "error" "[J") zw_X12_blame_1216) (fun _ h9 => h9) rfl dX12_blame_41 ?_
    refine lv_iload_n hx hb dX12_blame_44 rfl (lv_at hl 1 rfl) ?_
    obtain ⟨h_22, hfn⟩ := zg_s hfn
    refine va_lald hx hb hK hP 15 14 rfl rfl h_22 dX12_blame_45 ?_
    refine lv_lstore_n (lv' := [(3, .long (o_17.2.2.2.2.2.2.2 p1.toNatClampNeg)), (0, .ref h0), (1, .int p1), (2, .int p2)]) hx hb dX12_blame_46 rfl hl (of_decide_eq_true rfl) rfl (fun ls hl => ?_)
    refine lv_aload_n hx hb dX12_blame_47 rfl (lv_at hl 1 rfl) ?_
    refine lv_aload_n hx hb dX12_blame_48 rfl (lv_at hl 1 rfl) ?_
    refine va_get (D := (dC, dI)) (ci := 12) (v := .ref (a0 27)) (C := RX12) (T := TX12) (N := 67) hx hb hts zn_X12_blame_X12 hown hK hP 0 rfl rfl 27 (of_decide_eq_true rfl) (hts (.fieldLink RX12 93 "ShortEnoughModel" "groupOf" "[I") zw_X12_blame_1215) (fun _ h9 => h9) rfl dX12_blame_49 ?_
    refine lv_iload_n hx hb dX12_blame_52 rfl (lv_at hl 3 rfl) ?_
    refine va_iald hx hb hK hP 3 2 rfl rfl h_11 dX12_blame_53 ?_
    refine lv_aload_n hx hb dX12_blame_54 rfl (lv_at hl 1 rfl) ?_
    obtain ⟨o_23, hqo_23, hfn⟩ := zb_s hfn
    refine zcVi (ci := 12) (rest := [.int (f3 p2.toNatClampNeg), .ref h0]) (pc' := 58) (ws' := [(h0, .inr (12, zO a0 (zI (zI (zI b0 33 o_17.2.1) 41 o_17.2.2.1) 42 o_17.2.2.2.1) c0)), zVi (a0 17) k1 2 f1, zVi (a0 26) k2 28 f2, zVi (a0 27) k3 28 f3, zVi (a0 25) k4 28 f4, zVi (a0 37) k5 14 f5, zVi (a0 39) k6 14 o_17.2.2.2.2.1, zVi (a0 19) k7 28 f7, zVi (a0 20) k8 28 f8, zVi (a0 21) k9 28 f9, zVl (a0 31) k10 14 o_17.2.2.2.2.2.1, zVl (a0 22) k11 28 f11, zVl (a0 23) k12 28 f12, zVl (a0 32) k13 14 o_17.2.2.2.2.2.2.1, zVi (a0 14) k14 8 f14, zVl (a0 40) k15 14 o_17.2.2.2.2.2.2.2, zVi (a0 15) k16 8 f16, zVi (a0 12) k17 2 f17]) hP hK hD hS hA ⟨hx, hb, hml, hown, hts⟩ (zf_X12_finest l dC dI h0 a0 (zI (zI (zI b0 33 o_17.2.1) 41 o_17.2.2.1) 42 o_17.2.2.2.1) c0 k17 f17 k14 f14 o_23 hqo_23 H.size) (cwV 0 hts gX12_blame_X12_finest rfl rfl rfl zhd_X12_finest ⟨Nat.le_of_ble_eq_true rfl, Nat.le_of_ble_eq_true rfl⟩) [0, 17, 14] rfl (of_decide_eq_true rfl) [16, 13] rfl rfl rfl rfl hl.1 rfl (Nat.le_of_ble_eq_true rfl) dX12_blame_55 ⟨Nat.le_of_ble_eq_true rfl, Nat.le_of_ble_eq_true rfl⟩ [some 0, none, none, none, none, none, none, none, none, none, none, none, none, none, some 2, none, none, some 1] (of_decide_eq_true rfl) (of_decide_eq_true rfl) rfl rfl rfl (fun H locs hP hD hS => ?_)
    obtain ⟨o_27, hqo_27, hfn⟩ := zb_s hfn
    refine zcVv (ci := 12) (rest := []) (pc' := 61) (ws' := [(h0, .inr (12, zO a0 (zI (zI (zI b0 33 o_17.2.1) 41 o_17.2.2.1) 42 o_17.2.2.2.1) c0)), zVi (a0 17) k1 2 f1, zVi (a0 26) k2 28 f2, zVi (a0 27) k3 28 f3, zVi (a0 25) k4 28 f4, zVi (a0 37) k5 14 f5, zVi (a0 39) k6 14 o_27, zVi (a0 19) k7 28 f7, zVi (a0 20) k8 28 f8, zVi (a0 21) k9 28 f9, zVl (a0 31) k10 14 o_17.2.2.2.2.2.1, zVl (a0 22) k11 28 f11, zVl (a0 23) k12 28 f12, zVl (a0 32) k13 14 o_17.2.2.2.2.2.2.1, zVi (a0 14) k14 8 f14, zVl (a0 40) k15 14 o_17.2.2.2.2.2.2.2, zVi (a0 15) k16 8 f16, zVi (a0 12) k17 2 f17]) hP hK hD hS hA ⟨hx, hb, hml, hown, hts⟩ (zf_X12_triesGroup l dC dI h0 (f3 p2.toNatClampNeg) o_23 a0 (zI (zI (zI b0 33 o_17.2.1) 41 o_17.2.2.1) 42 o_17.2.2.2.1) c0 k1 f1 k3 f3 k6 o_17.2.2.2.2.1 o_27 hqo_27 H.size) (cwV 2 hts gX12_blame_X12_triesGroup rfl rfl rfl zhd_X12_triesGroup ⟨Nat.le_of_ble_eq_true rfl, Nat.le_of_ble_eq_true rfl⟩) [0, 1, 3, 6] rfl (of_decide_eq_true rfl) [0, 2, 5] rfl rfl rfl rfl hl.1 rfl (Nat.le_of_ble_eq_true rfl) dX12_blame_58 ⟨Nat.le_of_ble_eq_true rfl, Nat.le_of_ble_eq_true rfl⟩ [some 0, some 1, none, some 2, none, none, some 3] (of_decide_eq_true rfl) (of_decide_eq_true rfl) rfl rfl rfl (fun H locs hP hD hS => ?_)
    refine lv_aload_n hx hb dX12_blame_61 rfl (lv_at hl 1 rfl) ?_
    obtain ⟨o_31, hqo_31, hfn⟩ := zb_s hfn
    refine zcVb (ci := 12) (rest := []) (pc' := 65) (ws' := [(h0, .inr (12, zO a0 (zI (zI (zI b0 33 o_17.2.1) 41 o_31.2.1) 42 o_31.2.2.1) c0)), zVi (a0 17) k1 2 f1, zVi (a0 26) k2 28 f2, zVi (a0 27) k3 28 f3, zVi (a0 25) k4 28 f4, zVi (a0 37) k5 14 f5, zVi (a0 39) k6 14 o_27, zVi (a0 19) k7 28 f7, zVi (a0 20) k8 28 f8, zVi (a0 21) k9 28 f9, zVl (a0 31) k10 14 o_31.2.2.2.1, zVl (a0 22) k11 28 f11, zVl (a0 23) k12 28 f12, zVl (a0 32) k13 14 o_31.2.2.2.2.1, zVi (a0 14) k14 8 f14, zVl (a0 40) k15 14 o_31.2.2.2.2.2, zVi (a0 15) k16 8 f16, zVi (a0 12) k17 2 f17]) hP hK hD hS hA ⟨hx, hb, hml, hown, hts⟩ (zf_X12_passes l dC dI h0 a0 (zI (zI (zI b0 33 o_17.2.1) 41 o_17.2.2.1) 42 o_17.2.2.2.1) c0 k1 f1 k7 f7 k8 f8 k9 f9 k10 o_17.2.2.2.2.2.1 k11 f11 k12 f12 k13 o_17.2.2.2.2.2.2.1 k6 o_27 k14 f14 k15 o_17.2.2.2.2.2.2.2 k16 f16 k2 f2 o_31 hqo_31 H.size) (cwV 0 hts gX12_blame_X12_passes rfl rfl rfl zhd_X12_passes ⟨Nat.le_of_ble_eq_true rfl, Nat.le_of_ble_eq_true rfl⟩) [0, 1, 7, 8, 9, 10, 11, 12, 13, 6, 14, 15, 16, 2] rfl (of_decide_eq_true rfl) [0, 6, 7, 8, 9, 10, 11, 12, 5, 13, 14, 15, 1] rfl rfl rfl rfl hl.1 rfl (Nat.le_of_ble_eq_true rfl) dX12_blame_62 ⟨Nat.le_of_ble_eq_true rfl, Nat.le_of_ble_eq_true rfl⟩ [some 0, some 1, some 13, none, none, none, some 9, some 2, some 3, some 4, some 5, some 6, some 7, some 8, some 10, some 11, some 12] (of_decide_eq_true rfl) (of_decide_eq_true rfl) rfl rfl rfl (fun H locs hw_34n hP hD hS => ?_)
    refine lv_if_eq (tgt := 79) hx hb dX12_blame_65 (of_decide_eq_true rfl) (fun c_35 => ?_) (fun c_35 => ?_)
    · have hfn := (if_pos c_35).symm.trans hfn
      refine lv_ldc2 (v := (-1000000000000000)) hx hb hown (hts (.constantLong RX12 381 (-1000000000000000)) zw_X12_blame_1213) dX12_blame_79 ?_
      have ho := Option.some.inj hfn
      subst ho
      exact zrl hx hb hr hK hP hD hS hQ rfl hlocks dX12_blame_82
    have hfn := (if_neg c_35).symm.trans hfn
    refine lv_lload_n hx hb dX12_blame_68 rfl (lv_at hl 0 rfl) ?_
    refine lv_aload_n hx hb dX12_blame_69 rfl (lv_at hl 1 rfl) ?_
    refine va_get (D := (dC, dI)) (ci := 12) (v := .ref (a0 40)) (C := RX12) (T := TX12) (N := 67) hx hb hts zn_X12_blame_X12 hown hK hP 0 rfl rfl 40 (of_decide_eq_true rfl) (hts (.fieldLink RX12 135 "ShortEnoughModel" "error" "[J") zw_X12_blame_1216) (fun _ h9 => h9) rfl dX12_blame_70 ?_
    refine lv_iload_n hx hb dX12_blame_73 rfl (lv_at hl 2 rfl) ?_
    refine va_lald hx hb hK hP 15 14 rfl rfl h_22 dX12_blame_74 ?_
    refine lv_lsub hx hb dX12_blame_75 ?_
    refine lv_topl (fun x_36 ex_36 => ?_)
    have hfn := zn_s hfn ex_36
    refine lv_goto (tgt := 82) hx hb dX12_blame_76 (of_decide_eq_true rfl) ?_
    have ho := Option.some.inj hfn
    subst ho
    exact zrl hx hb hr hK hP hD hS hQ rfl hlocks dX12_blame_82
  have hfn := (if_pos c_21).symm.trans hfn
  refine lv_ldc2 (v := (-1000000000000000)) hx hb hown (hts (.constantLong RX12 381 (-1000000000000000)) zw_X12_blame_1213) dX12_blame_36 ?_
  have ho := Option.some.inj hfn
  subst ho
  exact zrl hx hb hr hK hP hD hS hQ rfl hlocks dX12_blame_39
theorem zn_X12_canSearch_X12 : ∀ w ∈ wsX120, w ∈ wsX12_canSearch := fun _ h => List.mem_cons_of_mem _ (List.mem_append_right _ h)
theorem zw_X12_canSearch_1218 : Cond.fieldLink RX12 112 "ShortEnoughModel" "wideNumber" "I" ∈ wsX12_canSearch := List.mem_of_getElem? (i := 1) (by decide +kernel)
theorem zw_X12_canSearch_1219 : Cond.fieldLink RX12 62 "ShortEnoughModel" "numbers" "[I" ∈ wsX12_canSearch := List.mem_of_getElem? (i := 2) (by decide +kernel)
theorem zw_X12_canSearch_1220 : Cond.fieldLink RX12 128 "ShortEnoughModel" "hasHand" "Z" ∈ wsX12_canSearch := List.mem_of_getElem? (i := 3) (by decide +kernel)
theorem zw_X12_canSearch_1221 : Cond.fieldLink RX12 103 "ShortEnoughModel" "freeMany" "I" ∈ wsX12_canSearch := List.mem_of_getElem? (i := 4) (by decide +kernel)
set_option maxHeartbeats 4000000 in
set_option maxRecDepth 100000 in
theorem zf_X12_canSearch (l : Launch) (dC : Nat → ClassId) (dI : Nat → Nat → Nat) (h0 : Nat) (a0 : Nat → Nat) (b0 : Nat → Int32) (c0 : Nat → Int64) (k1 : Nat) (f1 : Nat → Int32) (k2 : Nat) (f2 : Nat → Int32) (k3 : Nat) (f3 : Nat → Int32) (k4 : Nat) (f4 : Nat → Int32) (o : Int32 × Int32 × Int32 × (Nat → Int32)) (hfn : fn_X12_canSearch (b0 38) f1 f2 f3 f4 = some o) (sz : Nat) : zMi l yX12_canSearch wsX12_canSearch ({ frames := 2, cells := 0, slots := 0, locals := 43 }) (dC, dI) vwCl [.ref h0] [(h0, .inr (12, zO a0 b0 c0)), zVi (a0 17) k1 2 f1, zVi (a0 27) k2 28 f2, zVi (a0 25) k3 28 f3, zVi (a0 29) k4 14 f4] [(k1, .int), (k2, .int), (k3, .int), (k4, .int)] (fun r _ => r = o.1 ∧ narrow .boolean (.int o.1) = .int o.1) [(h0, .inr (12, zO a0 (zI (zI b0 30 o.2.1) 33 o.2.2.1) c0)), zVi (a0 17) k1 2 f1, zVi (a0 27) k2 28 f2, zVi (a0 25) k3 28 f3, zVi (a0 29) k4 14 o.2.2.2] [(k1, .int), (k2, .int), (k3, .int), (k4, .int)] sz := by
  refine zgoi (cc := cX12_canSearch) (maxL := 1) (ret := (some .boolean)) (C0 := RX12) (lv0 := [(0, .ref h0)]) zpl_X12 rfl rfl rfl (Nat.le_of_ble_eq_true rfl) ?_
  intro p e s m below meth c A ls Q hx hb hr hts hown hlocks hml hP hK hD hA hS hl hQ
  unfold fn_X12_canSearch at hfn
  refine lv_aload_n hx hb dX12_canSearch_0 rfl (lv_at hl 0 rfl) ?_
  obtain ⟨o_1, hqo_1, hfn⟩ := zb_s hfn
  refine zcVv (ci := 12) (rest := []) (pc' := 4) (ws' := [(h0, .inr (12, zO a0 (zI b0 30 o_1.1) c0)), zVi (a0 17) k1 2 f1, zVi (a0 27) k2 28 f2, zVi (a0 25) k3 28 f3, zVi (a0 29) k4 14 o_1.2]) hP hK hD hS hA ⟨hx, hb, hml, hown, hts⟩ (zf_X12_laysFree l dC dI h0 a0 b0 c0 k1 f1 k2 f2 k3 f3 k4 f4 o_1 hqo_1 s.heap.size) (cwV 0 hts gX12_canSearch_X12_laysFree rfl rfl rfl zhd_X12_laysFree ⟨Nat.le_of_ble_eq_true rfl, Nat.le_of_ble_eq_true rfl⟩) [0, 1, 2, 3, 4] rfl (of_decide_eq_true rfl) [0, 1, 2, 3] rfl rfl rfl rfl hl.1 rfl (Nat.le_of_ble_eq_true rfl) dX12_canSearch_1 ⟨Nat.le_of_ble_eq_true rfl, Nat.le_of_ble_eq_true rfl⟩ [some 0, some 1, some 2, some 3, some 4] (of_decide_eq_true rfl) (of_decide_eq_true rfl) rfl rfl rfl (fun H locs hP hD hS => ?_)
  refine lv_aload_n hx hb dX12_canSearch_4 rfl (lv_at hl 0 rfl) ?_
  refine lv_iconst (v := (-1)) hx hb dX12_canSearch_5 zci_m1 ?_
  refine va_put (D := (dC, dI)) (ci := 12) (v := .int (-1)) (ty := .int) (C := RX12) (T := TX12) (N := 67) hx hb hts zn_X12_canSearch_X12 tyX12 tyX12_ok nmX12 hown hK hP hD hS 0 rfl rfl 33 (of_decide_eq_true rfl) (hts (.fieldLink RX12 112 "ShortEnoughModel" "wideNumber" "I") zw_X12_canSearch_1218) (fun _ h9 => h9) rfl (tyX12_ok 33 (of_decide_eq_true rfl)) rfl rfl (Nat.le_of_ble_eq_true rfl) dX12_canSearch_6 (fun H locs hP hD hS => ?_)
  have hP : va_P (dC, dI) vwCl [(h0, .inr (12, zO a0 (zI (zI b0 30 o_1.1) 33 (-1)) c0)), zVi (a0 17) k1 2 f1, zVi (a0 27) k2 28 f2, zVi (a0 25) k3 28 f3, zVi (a0 29) k4 14 o_1.2] H := hP
  have hD := zDW hD hP rfl
  refine lv_aload_n hx hb dX12_canSearch_9 rfl (lv_at hl 0 rfl) ?_
  refine va_get (D := (dC, dI)) (ci := 12) (v := .ref (a0 17)) (C := RX12) (T := TX12) (N := 67) hx hb hts zn_X12_canSearch_X12 hown hK hP 0 rfl rfl 17 (of_decide_eq_true rfl) (hts (.fieldLink RX12 62 "ShortEnoughModel" "numbers" "[I") zw_X12_canSearch_1219) (fun _ h9 => h9) rfl dX12_canSearch_10 ?_
  refine lv_iconst (v := 0) hx hb dX12_canSearch_13 zci_0 ?_
  refine va_iald hx hb hK hP 1 0 rfl rfl (zv_in (by decide +kernel)) dX12_canSearch_14 ?_
  refine lv_if_le (tgt := 37) hx hb dX12_canSearch_15 (of_decide_eq_true rfl) (fun c_5 => ?_) (fun c_5 => ?_)
  · have hfn := (if_pos c_5).symm.trans hfn
    refine lv_iconst (v := 0) hx hb dX12_canSearch_37 zci_0 ?_
    have ho := Option.some.inj hfn
    subst ho
    exact zrz hx hb hr rfl hK hP hD hS hQ ⟨rfl, zB0⟩ hlocks dX12_canSearch_38
  have hfn := (if_neg c_5).symm.trans hfn
  refine lv_aload_n hx hb dX12_canSearch_18 rfl (lv_at hl 0 rfl) ?_
  refine va_get (D := (dC, dI)) (ci := 12) (v := .int (b0 38)) (C := RX12) (T := TX12) (N := 67) hx hb hts zn_X12_canSearch_X12 hown hK hP 0 rfl rfl 38 (of_decide_eq_true rfl) (hts (.fieldLink RX12 128 "ShortEnoughModel" "hasHand" "Z") zw_X12_canSearch_1220) (fun _ h9 => h9) rfl dX12_canSearch_19 ?_
  refine lv_if_eq (tgt := 37) hx hb dX12_canSearch_22 (of_decide_eq_true rfl) (fun c_6 => ?_) (fun c_6 => ?_)
  · have hfn := (if_pos c_6).symm.trans hfn
    refine lv_iconst (v := 0) hx hb dX12_canSearch_37 zci_0 ?_
    have ho := Option.some.inj hfn
    subst ho
    exact zrz hx hb hr rfl hK hP hD hS hQ ⟨rfl, zB0⟩ hlocks dX12_canSearch_38
  have hfn := (if_neg c_6).symm.trans hfn
  refine lv_aload_n hx hb dX12_canSearch_25 rfl (lv_at hl 0 rfl) ?_
  refine va_get (D := (dC, dI)) (ci := 12) (v := .int o_1.1) (C := RX12) (T := TX12) (N := 67) hx hb hts zn_X12_canSearch_X12 hown hK hP 0 rfl rfl 30 (of_decide_eq_true rfl) (hts (.fieldLink RX12 103 "ShortEnoughModel" "freeMany" "I") zw_X12_canSearch_1221) (fun _ h9 => h9) rfl dX12_canSearch_26 ?_
  refine lv_iconst (v := 5) hx hb dX12_canSearch_29 zci_5 ?_
  refine lv_icmp_gt (tgt := 37) hx hb dX12_canSearch_30 (of_decide_eq_true rfl) (fun c_7 => ?_) (fun c_7 => ?_)
  · have hfn := (if_pos c_7).symm.trans hfn
    refine lv_iconst (v := 0) hx hb dX12_canSearch_37 zci_0 ?_
    have ho := Option.some.inj hfn
    subst ho
    exact zrz hx hb hr rfl hK hP hD hS hQ ⟨rfl, zB0⟩ hlocks dX12_canSearch_38
  have hfn := (if_neg c_7).symm.trans hfn
  refine lv_iconst (v := 1) hx hb dX12_canSearch_33 zci_1 ?_
  refine lv_goto (tgt := 38) hx hb dX12_canSearch_34 (of_decide_eq_true rfl) ?_
  have ho := Option.some.inj hfn
  subst ho
  exact zrz hx hb hr rfl hK hP hD hS hQ ⟨rfl, zB1⟩ hlocks dX12_canSearch_38
theorem zn_X12_allChoices_X12 : ∀ w ∈ wsX120, w ∈ wsX12_allChoices := fun _ h => List.mem_cons_of_mem _ (List.mem_append_right _ h)
theorem zw_X12_allChoices_1223 : Cond.fieldLink RX12 103 "ShortEnoughModel" "freeMany" "I" ∈ wsX12_allChoices := List.mem_of_getElem? (i := 1) (by decide +kernel)
theorem zw_X12_allChoices_1224 : Cond.fieldLink RX12 47 "ShortEnoughModel" "formats" "[I" ∈ wsX12_allChoices := List.mem_of_getElem? (i := 2) (by decide +kernel)
set_option maxHeartbeats 4000000 in
set_option maxRecDepth 100000 in
theorem zf_X12_allChoices (l : Launch) (dC : Nat → ClassId) (dI : Nat → Nat → Nat) (h0 : Nat) (a0 : Nat → Nat) (b0 : Nat → Int32) (c0 : Nat → Int64) (k1 : Nat) (f1 : Nat → Int32) (o : Int32) (hfn : fn_X12_allChoices (b0 30) f1 = some o) (sz : Nat) : zMi l yX12_allChoices wsX12_allChoices ({ frames := 0, cells := 0, slots := 0, locals := 0 }) (dC, dI) vwCl [.ref h0] [(h0, .inr (12, zO a0 b0 c0)), zVi (a0 12) k1 2 f1] [(k1, .int)] (fun r _ => r = o) [(h0, .inr (12, zO a0 b0 c0)), zVi (a0 12) k1 2 f1] [(k1, .int)] sz := by
  refine zgoi (cc := cX12_allChoices) (maxL := 3) (ret := (some .int)) (C0 := RX12) (lv0 := [(0, .ref h0)]) zpl_X12 rfl rfl rfl (Nat.le_of_ble_eq_true rfl) ?_
  intro p e s m below meth c A ls Q hx hb hr hts hown hlocks hml hP hK hD hA hS hl hQ
  unfold fn_X12_allChoices at hfn
  refine lv_iconst (v := 1) hx hb dX12_allChoices_0 zci_1 ?_
  refine lv_istore_n (lv' := [(1, .int 1), (0, .ref h0)]) hx hb dX12_allChoices_1 rfl hl (of_decide_eq_true rfl) rfl (fun ls hl => ?_)
  refine lv_iconst (v := 0) hx hb dX12_allChoices_2 zci_0 ?_
  refine lv_istore_n (lv' := [(2, .int 0), (1, .int 1), (0, .ref h0)]) hx hb dX12_allChoices_3 rfl hl (of_decide_eq_true rfl) rfl (fun ls hl => ?_)
  obtain ⟨bd_1, ebd_1, hfn⟩ := zl_g hfn
  have lp_1 : ∀ (n : Nat) (s_1 : Int32 × Int32) (H : Heap) (locs : List Loc) (ls : Array Slot), zl bd_1 n s_1 = some o → va_P (dC, dI) vwCl [(h0, .inr (12, zO a0 b0 c0)), zVi (a0 12) k1 2 f1] H → va_D A [(h0, .inr (12, zO a0 b0 c0)), zVi (a0 12) k1 2 f1] → va_S A s.heap H locs → lv_has ls 3 [(2, .int s_1.2), (1, .int s_1.1), (0, .ref h0)] → W p l e (headSpec wsX12_allChoices ({ frames := 0, cells := 0, slots := 0, locals := 0 })).room s m ([.ref h0] : List Value).toArray below meth c H locs 0 0 Q (F0 m 4 ls []) := by
    intro n
    induction n with
    | zero => exact fun _ _ _ _ hfn => (zl_0 hfn).elim
    | succ n ih_1 =>
      intro s_1 H locs ls hfn hP hD hS hl
      have hfn := zl_s ebd_1 hfn
      refine lv_iload_n hx hb dX12_allChoices_4 rfl (lv_at hl 0 rfl) ?_
      refine lv_aload_n hx hb dX12_allChoices_5 rfl (lv_at hl 2 rfl) ?_
      refine va_get (D := (dC, dI)) (ci := 12) (v := .int (b0 30)) (C := RX12) (T := TX12) (N := 67) hx hb hts zn_X12_allChoices_X12 hown hK hP 0 rfl rfl 30 (of_decide_eq_true rfl) (hts (.fieldLink RX12 103 "ShortEnoughModel" "freeMany" "I") zw_X12_allChoices_1223) (fun _ h9 => h9) rfl dX12_allChoices_6 ?_
      refine lv_icmp_ge (tgt := 27) hx hb dX12_allChoices_9 (of_decide_eq_true rfl) (fun c_2 => ?_) (fun c_2 => ?_)
      · have hfn := (if_pos c_2).symm.trans hfn
        refine lv_iload_n hx hb dX12_allChoices_27 rfl (lv_at hl 1 rfl) ?_
        have ho := Option.some.inj hfn
        subst ho
        exact zri hx hb hr hK hP hD hS hQ rfl hlocks dX12_allChoices_28
      have hfn := (if_neg c_2).symm.trans hfn
      refine lv_iload_n hx hb dX12_allChoices_12 rfl (lv_at hl 1 rfl) ?_
      refine lv_aload_n hx hb dX12_allChoices_13 rfl (lv_at hl 2 rfl) ?_
      refine va_get (D := (dC, dI)) (ci := 12) (v := .ref (a0 12)) (C := RX12) (T := TX12) (N := 67) hx hb hts zn_X12_allChoices_X12 hown hK hP 0 rfl rfl 12 (of_decide_eq_true rfl) (hts (.fieldLink RX12 47 "ShortEnoughModel" "formats" "[I") zw_X12_allChoices_1224) (fun _ h9 => h9) rfl dX12_allChoices_14 ?_
      refine lv_iconst (v := 0) hx hb dX12_allChoices_17 zci_0 ?_
      refine va_iald hx hb hK hP 1 0 rfl rfl (zv_in (by decide +kernel)) dX12_allChoices_18 ?_
      refine lv_imul hx hb dX12_allChoices_19 ?_
      refine lv_istore_n (lv' := [(1, .int (s_1.1 * (f1 (0 : Int32).toNatClampNeg))), (2, .int s_1.2), (0, .ref h0)]) hx hb dX12_allChoices_20 rfl hl (of_decide_eq_true rfl) rfl (fun ls hl => ?_)
      refine lv_iinc (v := (s_1.2 + 1)) (lv' := [(2, .int (s_1.2 + 1)), (1, .int (s_1.1 * (f1 (0 : Int32).toNatClampNeg))), (0, .ref h0)]) hx hb dX12_allChoices_21 hl (k := 1) rfl rfl (of_decide_eq_true rfl) rfl (fun ls hl => ?_)
      refine lv_goto (tgt := 4) hx hb dX12_allChoices_24 (of_decide_eq_true rfl) ?_
      exact ih_1 ((s_1.1 * (f1 (0 : Int32).toNatClampNeg)), (s_1.2 + 1)) H locs ls hfn hP hD hS (lv_sub hl [0, 1, 2] rfl)
  exact lp_1 _ (1, 0) s.heap [] ls hfn hP hD hS (lv_sub hl [0, 1, 2] rfl)
