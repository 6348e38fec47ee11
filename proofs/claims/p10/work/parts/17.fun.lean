
set_option maxHeartbeats 4000000 in
set_option maxRecDepth 100000 in
theorem zf_X12_isIn (l : Launch) (dC : Nat → ClassId) (dI : Nat → Nat → Nat) (j0 : Int64) (j1 : Int64) (j2 : Int64) (o : Int32) (hfn : fn_X12_isIn j0 j1 j2 = some o) (sz : Nat) : zMi l yX12_isIn wsX12_isIn ({ frames := 0, cells := 0, slots := 0, locals := 0 }) (dC, dI) vwCl [.long j0, .long j1, .long j2] [] [] (fun r _ => r = o ∧ narrow .boolean (.int o) = .int o) [] [] sz := by
  refine zgoi (cc := cX12_isIn) (maxL := 6) (ret := (some .boolean)) (C0 := RX12) (lv0 := [(0, .long j0), (2, .long j1), (4, .long j2)]) zpl_X12 rfl rfl rfl (Nat.le_of_ble_eq_true rfl) ?_
  intro p e s m below meth c A ls Q hx hb hr hts hown hlocks hml hP hK hD hA hS hl hQ
  unfold fn_X12_isIn at hfn
  refine lv_lload_n hx hb dX12_isIn_0 rfl (lv_at hl 0 rfl) ?_
  refine lv_lload_n hx hb dX12_isIn_1 rfl (lv_at hl 1 rfl) ?_
  refine W.lcmp hx hb dX12_isIn_2 ?_
  refine lv_if_lt (tgt := 17) hx hb dX12_isIn_3 (of_decide_eq_true rfl) (fun c_1 => ?_) (fun c_1 => ?_)
  · have hfn := (if_pos c_1).symm.trans hfn
    refine lv_iconst (v := 0) hx hb dX12_isIn_17 zci_0 ?_
    have ho := Option.some.inj hfn
    subst ho
    exact zrz hx hb hr rfl hK hP hD hS hQ ⟨rfl, zB0⟩ hlocks dX12_isIn_18
  have hfn := (if_neg c_1).symm.trans hfn
  refine lv_lload_n hx hb dX12_isIn_6 rfl (lv_at hl 0 rfl) ?_
  refine lv_lload hx hb dX12_isIn_7 (lv_at hl 2 rfl) ?_
  refine W.lcmp hx hb dX12_isIn_9 ?_
  refine lv_if_gt (tgt := 17) hx hb dX12_isIn_10 (of_decide_eq_true rfl) (fun c_2 => ?_) (fun c_2 => ?_)
  · have hfn := (if_pos c_2).symm.trans hfn
    refine lv_iconst (v := 0) hx hb dX12_isIn_17 zci_0 ?_
    have ho := Option.some.inj hfn
    subst ho
    exact zrz hx hb hr rfl hK hP hD hS hQ ⟨rfl, zB0⟩ hlocks dX12_isIn_18
  have hfn := (if_neg c_2).symm.trans hfn
  refine lv_iconst (v := 1) hx hb dX12_isIn_13 zci_1 ?_
  refine lv_goto (tgt := 18) hx hb dX12_isIn_14 (of_decide_eq_true rfl) ?_
  have ho := Option.some.inj hfn
  subst ho
  exact zrz hx hb hr rfl hK hP hD hS hQ ⟨rfl, zB1⟩ hlocks dX12_isIn_18

set_option maxHeartbeats 4000000 in
set_option maxRecDepth 100000 in
theorem zf_X12_amount (l : Launch) (dC : Nat → ClassId) (dI : Nat → Nat → Nat) (j0 : Int64) (o : Int64) (hfn : fn_X12_amount j0 = some o) (sz : Nat) : zMl l yX12_amount wsX12_amount ({ frames := 0, cells := 0, slots := 0, locals := 0 }) (dC, dI) vwCl [.long j0] [] [] (fun r _ => r = o) [] [] sz := by
  refine zgol (cc := cX12_amount) (maxL := 2) (ret := (some .long)) (C0 := RX12) (lv0 := [(0, .long j0)]) zpl_X12 rfl rfl rfl (Nat.le_of_ble_eq_true rfl) ?_
  intro p e s m below meth c A ls Q hx hb hr hts hown hlocks hml hP hK hD hA hS hl hQ
  unfold fn_X12_amount at hfn
  refine lv_lload_n hx hb dX12_amount_0 rfl (lv_at hl 0 rfl) ?_
  refine lv_lconst (v := 0) hx hb dX12_amount_1 (by decide +kernel) ?_
  refine W.lcmp hx hb dX12_amount_2 ?_
  refine lv_if_ge (tgt := 11) hx hb dX12_amount_3 (of_decide_eq_true rfl) (fun c_1 => ?_) (fun c_1 => ?_)
  · have hfn := (if_pos c_1).symm.trans hfn
    refine lv_lload_n hx hb dX12_amount_11 rfl (lv_at hl 0 rfl) ?_
    have ho := Option.some.inj hfn
    subst ho
    exact zrl hx hb hr hK hP hD hS hQ rfl hlocks dX12_amount_12
  have hfn := (if_neg c_1).symm.trans hfn
  refine lv_lload_n hx hb dX12_amount_6 rfl (lv_at hl 0 rfl) ?_
  refine lv_lneg hx hb dX12_amount_7 ?_
  refine lv_goto (tgt := 12) hx hb dX12_amount_8 (of_decide_eq_true rfl) ?_
  have ho := Option.some.inj hfn
  subst ho
  exact zrl hx hb hr hK hP hD hS hQ rfl hlocks dX12_amount_12

set_option maxHeartbeats 4000000 in
set_option maxRecDepth 100000 in
theorem zf_X12_greater (l : Launch) (dC : Nat → ClassId) (dI : Nat → Nat → Nat) (j0 : Int64) (j1 : Int64) (o : Int64) (hfn : fn_X12_greater j0 j1 = some o) (sz : Nat) : zMl l yX12_greater wsX12_greater ({ frames := 0, cells := 0, slots := 0, locals := 0 }) (dC, dI) vwCl [.long j0, .long j1] [] [] (fun r _ => r = o) [] [] sz := by
  refine zgol (cc := cX12_greater) (maxL := 4) (ret := (some .long)) (C0 := RX12) (lv0 := [(0, .long j0), (2, .long j1)]) zpl_X12 rfl rfl rfl (Nat.le_of_ble_eq_true rfl) ?_
  intro p e s m below meth c A ls Q hx hb hr hts hown hlocks hml hP hK hD hA hS hl hQ
  unfold fn_X12_greater at hfn
  refine lv_lload_n hx hb dX12_greater_0 rfl (lv_at hl 0 rfl) ?_
  refine lv_lload_n hx hb dX12_greater_1 rfl (lv_at hl 1 rfl) ?_
  refine W.lcmp hx hb dX12_greater_2 ?_
  refine lv_if_le (tgt := 10) hx hb dX12_greater_3 (of_decide_eq_true rfl) (fun c_1 => ?_) (fun c_1 => ?_)
  · have hfn := (if_pos c_1).symm.trans hfn
    refine lv_lload_n hx hb dX12_greater_10 rfl (lv_at hl 1 rfl) ?_
    have ho := Option.some.inj hfn
    subst ho
    exact zrl hx hb hr hK hP hD hS hQ rfl hlocks dX12_greater_11
  have hfn := (if_neg c_1).symm.trans hfn
  refine lv_lload_n hx hb dX12_greater_6 rfl (lv_at hl 0 rfl) ?_
  refine lv_goto (tgt := 11) hx hb dX12_greater_7 (of_decide_eq_true rfl) ?_
  have ho := Option.some.inj hfn
  subst ho
  exact zrl hx hb hr hK hP hD hS hQ rfl hlocks dX12_greater_11

set_option maxHeartbeats 4000000 in
set_option maxRecDepth 100000 in
theorem zf_X12_lesser (l : Launch) (dC : Nat → ClassId) (dI : Nat → Nat → Nat) (j0 : Int64) (j1 : Int64) (o : Int64) (hfn : fn_X12_lesser j0 j1 = some o) (sz : Nat) : zMl l yX12_lesser wsX12_lesser ({ frames := 0, cells := 0, slots := 0, locals := 0 }) (dC, dI) vwCl [.long j0, .long j1] [] [] (fun r _ => r = o) [] [] sz := by
  refine zgol (cc := cX12_lesser) (maxL := 4) (ret := (some .long)) (C0 := RX12) (lv0 := [(0, .long j0), (2, .long j1)]) zpl_X12 rfl rfl rfl (Nat.le_of_ble_eq_true rfl) ?_
  intro p e s m below meth c A ls Q hx hb hr hts hown hlocks hml hP hK hD hA hS hl hQ
  unfold fn_X12_lesser at hfn
  refine lv_lload_n hx hb dX12_lesser_0 rfl (lv_at hl 0 rfl) ?_
  refine lv_lload_n hx hb dX12_lesser_1 rfl (lv_at hl 1 rfl) ?_
  refine W.lcmp hx hb dX12_lesser_2 ?_
  refine lv_if_ge (tgt := 10) hx hb dX12_lesser_3 (of_decide_eq_true rfl) (fun c_1 => ?_) (fun c_1 => ?_)
  · have hfn := (if_pos c_1).symm.trans hfn
    refine lv_lload_n hx hb dX12_lesser_10 rfl (lv_at hl 1 rfl) ?_
    have ho := Option.some.inj hfn
    subst ho
    exact zrl hx hb hr hK hP hD hS hQ rfl hlocks dX12_lesser_11
  have hfn := (if_neg c_1).symm.trans hfn
  refine lv_lload_n hx hb dX12_lesser_6 rfl (lv_at hl 0 rfl) ?_
  refine lv_goto (tgt := 11) hx hb dX12_lesser_7 (of_decide_eq_true rfl) ?_
  have ho := Option.some.inj hfn
  subst ho
  exact zrl hx hb hr hK hP hD hS hQ rfl hlocks dX12_lesser_11

set_option maxHeartbeats 4000000 in
set_option maxRecDepth 100000 in
theorem zf_X12_floor (l : Launch) (dC : Nat → ClassId) (dI : Nat → Nat → Nat) (j0 : Int64) (j1 : Int64) (o : Int64) (hfn : fn_X12_floor j0 j1 = some o) (sz : Nat) : zMl l yX12_floor wsX12_floor ({ frames := 0, cells := 0, slots := 0, locals := 0 }) (dC, dI) vwCl [.long j0, .long j1] [] [] (fun r _ => r = o) [] [] sz := by
  refine zgol (cc := cX12_floor) (maxL := 6) (ret := (some .long)) (C0 := RX12) (lv0 := [(0, .long j0), (2, .long j1)]) zpl_X12 rfl rfl rfl (Nat.le_of_ble_eq_true rfl) ?_
  intro p e s m below meth c A ls Q hx hb hr hts hown hlocks hml hP hK hD hA hS hl hQ
  unfold fn_X12_floor at hfn
  refine lv_lload_n hx hb dX12_floor_0 rfl (lv_at hl 0 rfl) ?_
  refine lv_lload_n hx hb dX12_floor_1 rfl (lv_at hl 1 rfl) ?_
  obtain ⟨h_1, hfn⟩ := zd_s hfn
  refine lv_ldiv hx hb dX12_floor_2 h_1 ?_
  refine lv_lstore (lv' := [(4, .long (j0 / j1)), (0, .long j0), (2, .long j1)]) hx hb dX12_floor_3 hl (of_decide_eq_true rfl) rfl (fun ls hl => ?_)
  refine lv_lload_n hx hb dX12_floor_5 rfl (lv_at hl 1 rfl) ?_
  refine lv_lload_n hx hb dX12_floor_6 rfl (lv_at hl 2 rfl) ?_
  obtain ⟨h_2, hfn⟩ := zd_s hfn
  refine lv_lrem hx hb dX12_floor_7 h_2 ?_
  refine lv_lconst (v := 0) hx hb dX12_floor_8 (by decide +kernel) ?_
  refine W.lcmp hx hb dX12_floor_9 ?_
  refine lv_if_eq (tgt := 26) hx hb dX12_floor_10 (of_decide_eq_true rfl) (fun c_3 => ?_) (fun c_3 => ?_)
  · have hfn := (if_pos c_3).symm.trans hfn
    refine lv_lload hx hb dX12_floor_26 (lv_at hl 0 rfl) ?_
    have ho := Option.some.inj hfn
    subst ho
    exact zrl hx hb hr hK hP hD hS hQ rfl hlocks dX12_floor_28
  have hfn := (if_neg c_3).symm.trans hfn
  refine lv_lload_n hx hb dX12_floor_13 rfl (lv_at hl 1 rfl) ?_
  refine lv_lconst (v := 0) hx hb dX12_floor_14 (by decide +kernel) ?_
  refine W.lcmp hx hb dX12_floor_15 ?_
  refine lv_if_ge (tgt := 26) hx hb dX12_floor_16 (of_decide_eq_true rfl) (fun c_4 => ?_) (fun c_4 => ?_)
  · have hfn := (if_pos c_4).symm.trans hfn
    refine lv_lload hx hb dX12_floor_26 (lv_at hl 0 rfl) ?_
    have ho := Option.some.inj hfn
    subst ho
    exact zrl hx hb hr hK hP hD hS hQ rfl hlocks dX12_floor_28
  have hfn := (if_neg c_4).symm.trans hfn
  refine lv_lload hx hb dX12_floor_19 (lv_at hl 0 rfl) ?_
  refine lv_lconst (v := 1) hx hb dX12_floor_21 (by decide +kernel) ?_
  refine lv_lsub hx hb dX12_floor_22 ?_
  refine lv_goto (tgt := 28) hx hb dX12_floor_23 (of_decide_eq_true rfl) ?_
  have ho := Option.some.inj hfn
  subst ho
  exact zrl hx hb hr hK hP hD hS hQ rfl hlocks dX12_floor_28
theorem zn_X12_refuses_X12 : ∀ w ∈ wsX120, w ∈ wsX12_refuses := fun _ h => List.mem_cons_of_mem _ (List.mem_append_right _ h)
theorem zw_X12_refuses_868 : Cond.fieldLink RX12 17 "ShortEnoughModel" "refused" "[I" ∈ wsX12_refuses := List.mem_of_getElem? (i := 1) (by decide +kernel)
set_option maxHeartbeats 4000000 in
set_option maxRecDepth 100000 in
theorem zf_X12_refuses (l : Launch) (dC : Nat → ClassId) (dI : Nat → Nat → Nat) (h0 : Nat) (p1 : Int32) (a0 : Nat → Nat) (b0 : Nat → Int32) (c0 : Nat → Int64) (k1 : Nat) (f1 : Nat → Int32) (o : Int32 × (Nat → Int32)) (hfn : fn_X12_refuses p1 f1 = some o) (sz : Nat) : zMi l yX12_refuses wsX12_refuses ({ frames := 0, cells := 0, slots := 0, locals := 0 }) (dC, dI) vwCl [.ref h0, .int p1] [(h0, .inr (12, zO a0 b0 c0)), zVi (a0 2) k1 5 f1] [(k1, .int)] (fun r _ => r = o.1) [(h0, .inr (12, zO a0 b0 c0)), zVi (a0 2) k1 5 o.2] [(k1, .int)] sz := by
  refine zgoi (cc := cX12_refuses) (maxL := 2) (ret := (some .int)) (C0 := RX12) (lv0 := [(0, .ref h0), (1, .int p1)]) zpl_X12 rfl rfl rfl (Nat.le_of_ble_eq_true rfl) ?_
  intro p e s m below meth c A ls Q hx hb hr hts hown hlocks hml hP hK hD hA hS hl hQ
  unfold fn_X12_refuses at hfn
  refine lv_aload_n hx hb dX12_refuses_0 rfl (lv_at hl 0 rfl) ?_
  refine va_get (D := (dC, dI)) (ci := 12) (v := .ref (a0 2)) (C := RX12) (T := TX12) (N := 67) hx hb hts zn_X12_refuses_X12 hown hK hP 0 rfl rfl 2 (of_decide_eq_true rfl) (hts (.fieldLink RX12 17 "ShortEnoughModel" "refused" "[I") zw_X12_refuses_868) (fun _ h9 => h9) rfl dX12_refuses_1 ?_
  refine lv_iload_n hx hb dX12_refuses_4 rfl (lv_at hl 1 rfl) ?_
  refine lv_dup2_11 hx hb dX12_refuses_5 rfl rfl ?_
  obtain ⟨h_1, hfn⟩ := zg_s hfn
  refine va_iald hx hb hK hP 1 0 rfl rfl h_1 dX12_refuses_6 ?_
  refine lv_iconst (v := 1) hx hb dX12_refuses_7 zci_1 ?_
  refine lv_iadd hx hb dX12_refuses_8 ?_
  refine va_iast hx hb hK hP hD hS 1 0 rfl rfl h_1 dX12_refuses_9 (fun H locs hP hD hS => ?_)
  have hP : va_P (dC, dI) vwCl [(h0, .inr (12, zO a0 b0 c0)), zVi (a0 2) k1 5 (upd f1 p1.toNatClampNeg ((f1 p1.toNatClampNeg) + 1))] H := hP
  have hD := zDW hD hP rfl
  refine lv_iconst (v := (-1)) hx hb dX12_refuses_10 zci_m1 ?_
  have ho := Option.some.inj hfn
  subst ho
  exact zri hx hb hr hK hP hD hS hQ rfl hlocks dX12_refuses_11
theorem zn_X12_isRefused_X12 : ∀ w ∈ wsX120, w ∈ wsX12_isRefused := fun _ h => List.mem_cons_of_mem _ (List.mem_append_right _ h)
theorem zw_X12_isRefused_870 : Cond.fieldLink RX12 17 "ShortEnoughModel" "refused" "[I" ∈ wsX12_isRefused := List.mem_of_getElem? (i := 1) (by decide +kernel)
set_option maxHeartbeats 4000000 in
set_option maxRecDepth 100000 in
theorem zf_X12_isRefused (l : Launch) (dC : Nat → ClassId) (dI : Nat → Nat → Nat) (h0 : Nat) (p1 : Int32) (a0 : Nat → Nat) (b0 : Nat → Int32) (c0 : Nat → Int64) (k1 : Nat) (f1 : Nat → Int32) (o : Int32 × (Nat → Int32)) (hfn : fn_X12_isRefused p1 f1 = some o) (sz : Nat) : zMi l yX12_isRefused wsX12_isRefused ({ frames := 0, cells := 0, slots := 0, locals := 0 }) (dC, dI) vwCl [.ref h0, .int p1] [(h0, .inr (12, zO a0 b0 c0)), zVi (a0 2) k1 5 f1] [(k1, .int)] (fun r _ => r = o.1 ∧ narrow .boolean (.int o.1) = .int o.1) [(h0, .inr (12, zO a0 b0 c0)), zVi (a0 2) k1 5 o.2] [(k1, .int)] sz := by
  refine zgoi (cc := cX12_isRefused) (maxL := 2) (ret := (some .boolean)) (C0 := RX12) (lv0 := [(0, .ref h0), (1, .int p1)]) zpl_X12 rfl rfl rfl (Nat.le_of_ble_eq_true rfl) ?_
  intro p e s m below meth c A ls Q hx hb hr hts hown hlocks hml hP hK hD hA hS hl hQ
  unfold fn_X12_isRefused at hfn
  refine lv_aload_n hx hb dX12_isRefused_0 rfl (lv_at hl 0 rfl) ?_
  refine va_get (D := (dC, dI)) (ci := 12) (v := .ref (a0 2)) (C := RX12) (T := TX12) (N := 67) hx hb hts zn_X12_isRefused_X12 hown hK hP 0 rfl rfl 2 (of_decide_eq_true rfl) (hts (.fieldLink RX12 17 "ShortEnoughModel" "refused" "[I") zw_X12_isRefused_870) (fun _ h9 => h9) rfl dX12_isRefused_1 ?_
  refine lv_iload_n hx hb dX12_isRefused_4 rfl (lv_at hl 1 rfl) ?_
  refine lv_dup2_11 hx hb dX12_isRefused_5 rfl rfl ?_
  obtain ⟨h_1, hfn⟩ := zg_s hfn
  refine va_iald hx hb hK hP 1 0 rfl rfl h_1 dX12_isRefused_6 ?_
  refine lv_iconst (v := 1) hx hb dX12_isRefused_7 zci_1 ?_
  refine lv_iadd hx hb dX12_isRefused_8 ?_
  refine va_iast hx hb hK hP hD hS 1 0 rfl rfl h_1 dX12_isRefused_9 (fun H locs hP hD hS => ?_)
  have hP : va_P (dC, dI) vwCl [(h0, .inr (12, zO a0 b0 c0)), zVi (a0 2) k1 5 (upd f1 p1.toNatClampNeg ((f1 p1.toNatClampNeg) + 1))] H := hP
  have hD := zDW hD hP rfl
  refine lv_iconst (v := 0) hx hb dX12_isRefused_10 zci_0 ?_
  have ho := Option.some.inj hfn
  subst ho
  exact zrz hx hb hr rfl hK hP hD hS hQ ⟨rfl, zB0⟩ hlocks dX12_isRefused_11
theorem zn_X12_lays_X12 : ∀ w ∈ wsX120, w ∈ wsX12_lays := fun _ h => List.mem_cons_of_mem _ (List.mem_append_right _ h)
theorem zw_X12_lays_872 : Cond.fieldLink RX12 7 "ShortEnoughModel" "tape" "[I" ∈ wsX12_lays := List.mem_of_getElem? (i := 1) (by decide +kernel)
theorem zw_X12_lays_873 : Cond.fieldLink RX12 13 "ShortEnoughModel" "taped" "I" ∈ wsX12_lays := List.mem_of_getElem? (i := 2) (by decide +kernel)
set_option maxHeartbeats 4000000 in
set_option maxRecDepth 100000 in
theorem zf_X12_lays (l : Launch) (dC : Nat → ClassId) (dI : Nat → Nat → Nat) (h0 : Nat) (p1 : Int32) (a0 : Nat → Nat) (b0 : Nat → Int32) (c0 : Nat → Int64) (k1 : Nat) (f1 : Nat → Int32) (o : Int32 × (Nat → Int32)) (hfn : fn_X12_lays p1 (b0 1) f1 = some o) (sz : Nat) : zMv l yX12_lays wsX12_lays ({ frames := 0, cells := 0, slots := 0, locals := 0 }) (dC, dI) vwCl [.ref h0, .int p1] [(h0, .inr (12, zO a0 b0 c0)), zVi (a0 0) k1 1200 f1] [(k1, .int)] (fun _ => True) [(h0, .inr (12, zO a0 (zI b0 1 o.1) c0)), zVi (a0 0) k1 1200 o.2] [(k1, .int)] sz := by
  refine zgov (cc := cX12_lays) (maxL := 3) (ret := none) (C0 := RX12) (lv0 := [(0, .ref h0), (1, .int p1)]) zpl_X12 rfl rfl rfl (Nat.le_of_ble_eq_true rfl) ?_
  intro p e s m below meth c A ls Q hx hb hr hts hown hlocks hml hP hK hD hA hS hl hQ
  unfold fn_X12_lays at hfn
  refine lv_iconst (v := 0) hx hb dX12_lays_0 zci_0 ?_
  refine lv_istore_n (lv' := [(2, .int 0), (0, .ref h0), (1, .int p1)]) hx hb dX12_lays_1 rfl hl (of_decide_eq_true rfl) rfl (fun ls hl => ?_)
  obtain ⟨bd_1, ebd_1, hfn⟩ := zl_g hfn
  have lp_1 : ∀ (n : Nat) (s_1 : Int32 × (Nat → Int32)) (H : Heap) (locs : List Loc) (ls : Array Slot), zl bd_1 n s_1 = some o → va_P (dC, dI) vwCl [(h0, .inr (12, zO a0 b0 c0)), zVi (a0 0) k1 1200 s_1.2] H → va_D A [(h0, .inr (12, zO a0 b0 c0)), zVi (a0 0) k1 1200 s_1.2] → va_S A s.heap H locs → lv_has ls 3 [(2, .int s_1.1), (0, .ref h0), (1, .int p1)] → W p l e (headSpec wsX12_lays ({ frames := 0, cells := 0, slots := 0, locals := 0 })).room s m ([.ref h0, .int p1] : List Value).toArray below meth c H locs 0 0 Q (F0 m 2 ls []) := by
    intro n
    induction n with
    | zero => exact fun _ _ _ _ hfn => (zl_0 hfn).elim
    | succ n ih_1 =>
      intro s_1 H locs ls hfn hP hD hS hl
      have hfn := zl_s ebd_1 hfn
      refine lv_iload_n hx hb dX12_lays_2 rfl (lv_at hl 0 rfl) ?_
      refine lv_iconst (v := 4) hx hb dX12_lays_3 zci_4 ?_
      refine lv_icmp_ge (tgt := 37) hx hb dX12_lays_4 (of_decide_eq_true rfl) (fun c_2 => ?_) (fun c_2 => ?_)
      · have hfn := (if_pos c_2).symm.trans hfn
        refine lv_aload_n hx hb dX12_lays_37 rfl (lv_at hl 1 rfl) ?_
        refine lv_dup hx hb dX12_lays_38 rfl ?_
        refine va_get (D := (dC, dI)) (ci := 12) (v := .int (b0 1)) (C := RX12) (T := TX12) (N := 67) hx hb hts zn_X12_lays_X12 hown hK hP 0 rfl rfl 1 (of_decide_eq_true rfl) (hts (.fieldLink RX12 13 "ShortEnoughModel" "taped" "I") zw_X12_lays_873) (fun _ h9 => h9) rfl dX12_lays_39 ?_
        refine lv_iconst (v := 4) hx hb dX12_lays_42 zci_4 ?_
        refine lv_iadd hx hb dX12_lays_43 ?_
        refine va_put (D := (dC, dI)) (ci := 12) (v := .int ((b0 1) + 4)) (ty := .int) (C := RX12) (T := TX12) (N := 67) hx hb hts zn_X12_lays_X12 tyX12 tyX12_ok nmX12 hown hK hP hD hS 0 rfl rfl 1 (of_decide_eq_true rfl) (hts (.fieldLink RX12 13 "ShortEnoughModel" "taped" "I") zw_X12_lays_873) (fun _ h9 => h9) rfl (tyX12_ok 1 (of_decide_eq_true rfl)) rfl rfl (Nat.le_of_ble_eq_true rfl) dX12_lays_44 (fun H locs hP hD hS => ?_)
        have hP : va_P (dC, dI) vwCl [(h0, .inr (12, zO a0 (zI b0 1 ((b0 1) + 4)) c0)), zVi (a0 0) k1 1200 s_1.2] H := hP
        have hD := zDW hD hP rfl
        have ho := Option.some.inj hfn
        subst ho
        exact zrv hx hb hr hK hP hD hS hQ trivial hlocks dX12_lays_47
      have hfn := (if_neg c_2).symm.trans hfn
      refine lv_aload_n hx hb dX12_lays_7 rfl (lv_at hl 1 rfl) ?_
      refine va_get (D := (dC, dI)) (ci := 12) (v := .ref (a0 0)) (C := RX12) (T := TX12) (N := 67) hx hb hts zn_X12_lays_X12 hown hK hP 0 rfl rfl 0 (of_decide_eq_true rfl) (hts (.fieldLink RX12 7 "ShortEnoughModel" "tape" "[I") zw_X12_lays_872) (fun _ h9 => h9) rfl dX12_lays_8 ?_
      refine lv_aload_n hx hb dX12_lays_11 rfl (lv_at hl 1 rfl) ?_
      refine va_get (D := (dC, dI)) (ci := 12) (v := .int (b0 1)) (C := RX12) (T := TX12) (N := 67) hx hb hts zn_X12_lays_X12 hown hK hP 0 rfl rfl 1 (of_decide_eq_true rfl) (hts (.fieldLink RX12 13 "ShortEnoughModel" "taped" "I") zw_X12_lays_873) (fun _ h9 => h9) rfl dX12_lays_12 ?_
      refine lv_iload_n hx hb dX12_lays_15 rfl (lv_at hl 0 rfl) ?_
      refine lv_iadd hx hb dX12_lays_16 ?_
      refine lv_iload_n hx hb dX12_lays_17 rfl (lv_at hl 2 rfl) ?_
      refine lv_bipush (v := 24) hx hb dX12_lays_18 zcb_24 ?_
      refine lv_bipush (v := 8) hx hb dX12_lays_20 zcb_8 ?_
      refine lv_iload_n hx hb dX12_lays_22 rfl (lv_at hl 0 rfl) ?_
      refine lv_imul hx hb dX12_lays_23 ?_
      refine lv_isub hx hb dX12_lays_24 ?_
      refine lv_ishr hx hb dX12_lays_25 ?_
      refine lv_sipush (v := 255) hx hb dX12_lays_26 zcs_255 ?_
      refine lv_iand hx hb dX12_lays_29 ?_
      obtain ⟨h_3, hfn⟩ := zg_s hfn
      refine va_iast hx hb hK hP hD hS 1 0 rfl rfl h_3 dX12_lays_30 (fun H locs hP hD hS => ?_)
      obtain ⟨g_4, eg_4⟩ : ∃ g : Nat → Int32, g = (upd s_1.2 ((b0 1) + s_1.1).toNatClampNeg ((p1 >>> ((24 - (8 * s_1.1)) &&& 31)) &&& 255)) := ⟨_, rfl⟩
      have hfn := zn_s hfn eg_4
      have hP : va_P (dC, dI) vwCl [(h0, .inr (12, zO a0 b0 c0)), zVi (a0 0) k1 1200 g_4] H := by rw [eg_4]; exact hP
      have hD : va_D A [(h0, .inr (12, zO a0 b0 c0)), zVi (a0 0) k1 1200 g_4] := by rw [eg_4]; exact hD
      refine lv_iinc (v := (s_1.1 + 1)) (lv' := [(2, .int (s_1.1 + 1)), (0, .ref h0), (1, .int p1)]) hx hb dX12_lays_31 hl (k := 0) rfl rfl (of_decide_eq_true rfl) rfl (fun ls hl => ?_)
      refine lv_goto (tgt := 2) hx hb dX12_lays_34 (of_decide_eq_true rfl) ?_
      exact ih_1 ((s_1.1 + 1), g_4) H locs ls hfn hP hD hS (lv_sub hl [0, 1, 2] rfl)
  exact lp_1 _ (0, f1) s.heap [] ls hfn hP hD hS (lv_sub hl [0, 1, 2] rfl)
theorem zn_X12_feed_X12 : ∀ w ∈ wsX120, w ∈ wsX12_feed := fun _ h => List.mem_cons_of_mem _ (List.mem_append_right _ h)
theorem zw_X12_feed_875 : Cond.fieldLink RX12 13 "ShortEnoughModel" "taped" "I" ∈ wsX12_feed := List.mem_of_getElem? (i := 1) (by decide +kernel)
set_option maxHeartbeats 4000000 in
set_option maxRecDepth 100000 in
theorem zf_X12_feed (l : Launch) (dC : Nat → ClassId) (dI : Nat → Nat → Nat) (h0 : Nat) (p1 : Int32) (p2 : Int32) (p3 : Int32) (p4 : Int32) (p5 : Int32) (a0 : Nat → Nat) (b0 : Nat → Int32) (c0 : Nat → Int64) (k1 : Nat) (f1 : Nat → Int32) (k2 : Nat) (f2 : Nat → Int32) (o : Int32 × Int32 × (Nat → Int32) × (Nat → Int32)) (hfn : fn_X12_feed p1 p2 p3 p4 p5 (b0 1) f1 f2 = some o) (sz : Nat) : zMi l yX12_feed wsX12_feed ({ frames := 1, cells := 0, slots := 0, locals := 22 }) (dC, dI) vwCl [.ref h0, .int p1, .int p2, .int p3, .int p4, .int p5] [(h0, .inr (12, zO a0 b0 c0)), zVi (a0 0) k1 1200 f1, zVi (a0 2) k2 5 f2] [(k1, .int), (k2, .int)] (fun r _ => r = o.1) [(h0, .inr (12, zO a0 (zI b0 1 o.2.1) c0)), zVi (a0 0) k1 1200 o.2.2.1, zVi (a0 2) k2 5 o.2.2.2] [(k1, .int), (k2, .int)] sz := by
  refine zgoi (cc := cX12_feed) (maxL := 6) (ret := (some .int)) (C0 := RX12) (lv0 := [(0, .ref h0), (1, .int p1), (2, .int p2), (3, .int p3), (4, .int p4), (5, .int p5)]) zpl_X12 rfl rfl rfl (Nat.le_of_ble_eq_true rfl) ?_
  intro p e s m below meth c A ls Q hx hb hr hts hown hlocks hml hP hK hD hA hS hl hQ
  unfold fn_X12_feed at hfn
  refine lv_aload_n hx hb dX12_feed_0 rfl (lv_at hl 0 rfl) ?_
  refine va_get (D := (dC, dI)) (ci := 12) (v := .int (b0 1)) (C := RX12) (T := TX12) (N := 67) hx hb hts zn_X12_feed_X12 hown hK hP 0 rfl rfl 1 (of_decide_eq_true rfl) (hts (.fieldLink RX12 13 "ShortEnoughModel" "taped" "I") zw_X12_feed_875) (fun _ h9 => h9) rfl dX12_feed_1 ?_
  refine lv_bipush (v := 20) hx hb dX12_feed_4 zcb_20 ?_
  refine lv_iadd hx hb dX12_feed_6 ?_
  refine lv_sipush (v := 1200) hx hb dX12_feed_7 zcs_1200 ?_
  refine lv_icmp_le (tgt := 19) hx hb dX12_feed_10 (of_decide_eq_true rfl) (fun c_1 => ?_) (fun c_1 => ?_)
  · have hfn := (if_pos c_1).symm.trans hfn
    refine lv_aload_n hx hb dX12_feed_19 rfl (lv_at hl 0 rfl) ?_
    refine lv_iload_n hx hb dX12_feed_20 rfl (lv_at hl 1 rfl) ?_
    obtain ⟨o_2, hqo_2, hfn⟩ := zb_s hfn
    refine zcVv (ci := 12) (rest := []) (pc' := 24) (ws' := [(h0, .inr (12, zO a0 (zI b0 1 o_2.1) c0)), zVi (a0 0) k1 1200 o_2.2, zVi (a0 2) k2 5 f2]) hP hK hD hS hA ⟨hx, hb, hml, hown, hts⟩ (zf_X12_lays l dC dI h0 p1 a0 b0 c0 k1 f1 o_2 hqo_2 s.heap.size) (cwV 1 hts gX12_feed_X12_lays rfl rfl rfl zhd_X12_lays ⟨Nat.le_of_ble_eq_true rfl, Nat.le_of_ble_eq_true rfl⟩) [0, 1] rfl (of_decide_eq_true rfl) [0] rfl rfl rfl rfl hl.1 rfl (Nat.le_of_ble_eq_true rfl) dX12_feed_21 ⟨Nat.le_of_ble_eq_true rfl, Nat.le_of_ble_eq_true rfl⟩ [some 0, some 1] (of_decide_eq_true rfl) (of_decide_eq_true rfl) rfl rfl rfl (fun H locs hP hD hS => ?_)
    refine lv_aload_n hx hb dX12_feed_24 rfl (lv_at hl 0 rfl) ?_
    refine lv_iload_n hx hb dX12_feed_25 rfl (lv_at hl 2 rfl) ?_
    obtain ⟨o_6, hqo_6, hfn⟩ := zb_s hfn
    refine zcVv (ci := 12) (rest := []) (pc' := 29) (ws' := [(h0, .inr (12, zO a0 (zI b0 1 o_6.1) c0)), zVi (a0 0) k1 1200 o_6.2, zVi (a0 2) k2 5 f2]) hP hK hD hS hA ⟨hx, hb, hml, hown, hts⟩ (zf_X12_lays l dC dI h0 p2 a0 (zI b0 1 o_2.1) c0 k1 o_2.2 o_6 hqo_6 H.size) (cwV 1 hts gX12_feed_X12_lays rfl rfl rfl zhd_X12_lays ⟨Nat.le_of_ble_eq_true rfl, Nat.le_of_ble_eq_true rfl⟩) [0, 1] rfl (of_decide_eq_true rfl) [0] rfl rfl rfl rfl hl.1 rfl (Nat.le_of_ble_eq_true rfl) dX12_feed_26 ⟨Nat.le_of_ble_eq_true rfl, Nat.le_of_ble_eq_true rfl⟩ [some 0, some 1] (of_decide_eq_true rfl) (of_decide_eq_true rfl) rfl rfl rfl (fun H locs hP hD hS => ?_)
    refine lv_aload_n hx hb dX12_feed_29 rfl (lv_at hl 0 rfl) ?_
    refine lv_iload_n hx hb dX12_feed_30 rfl (lv_at hl 3 rfl) ?_
    obtain ⟨o_10, hqo_10, hfn⟩ := zb_s hfn
    refine zcVv (ci := 12) (rest := []) (pc' := 34) (ws' := [(h0, .inr (12, zO a0 (zI b0 1 o_10.1) c0)), zVi (a0 0) k1 1200 o_10.2, zVi (a0 2) k2 5 f2]) hP hK hD hS hA ⟨hx, hb, hml, hown, hts⟩ (zf_X12_lays l dC dI h0 p3 a0 (zI b0 1 o_6.1) c0 k1 o_6.2 o_10 hqo_10 H.size) (cwV 1 hts gX12_feed_X12_lays rfl rfl rfl zhd_X12_lays ⟨Nat.le_of_ble_eq_true rfl, Nat.le_of_ble_eq_true rfl⟩) [0, 1] rfl (of_decide_eq_true rfl) [0] rfl rfl rfl rfl hl.1 rfl (Nat.le_of_ble_eq_true rfl) dX12_feed_31 ⟨Nat.le_of_ble_eq_true rfl, Nat.le_of_ble_eq_true rfl⟩ [some 0, some 1] (of_decide_eq_true rfl) (of_decide_eq_true rfl) rfl rfl rfl (fun H locs hP hD hS => ?_)
    refine lv_aload_n hx hb dX12_feed_34 rfl (lv_at hl 0 rfl) ?_
    refine lv_iload hx hb dX12_feed_35 (lv_at hl 4 rfl) ?_
    obtain ⟨o_14, hqo_14, hfn⟩ := zb_s hfn
    refine zcVv (ci := 12) (rest := []) (pc' := 40) (ws' := [(h0, .inr (12, zO a0 (zI b0 1 o_14.1) c0)), zVi (a0 0) k1 1200 o_14.2, zVi (a0 2) k2 5 f2]) hP hK hD hS hA ⟨hx, hb, hml, hown, hts⟩ (zf_X12_lays l dC dI h0 p4 a0 (zI b0 1 o_10.1) c0 k1 o_10.2 o_14 hqo_14 H.size) (cwV 1 hts gX12_feed_X12_lays rfl rfl rfl zhd_X12_lays ⟨Nat.le_of_ble_eq_true rfl, Nat.le_of_ble_eq_true rfl⟩) [0, 1] rfl (of_decide_eq_true rfl) [0] rfl rfl rfl rfl hl.1 rfl (Nat.le_of_ble_eq_true rfl) dX12_feed_37 ⟨Nat.le_of_ble_eq_true rfl, Nat.le_of_ble_eq_true rfl⟩ [some 0, some 1] (of_decide_eq_true rfl) (of_decide_eq_true rfl) rfl rfl rfl (fun H locs hP hD hS => ?_)
    refine lv_aload_n hx hb dX12_feed_40 rfl (lv_at hl 0 rfl) ?_
    refine lv_iload hx hb dX12_feed_41 (lv_at hl 5 rfl) ?_
    obtain ⟨o_18, hqo_18, hfn⟩ := zb_s hfn
    refine zcVv (ci := 12) (rest := []) (pc' := 46) (ws' := [(h0, .inr (12, zO a0 (zI b0 1 o_18.1) c0)), zVi (a0 0) k1 1200 o_18.2, zVi (a0 2) k2 5 f2]) hP hK hD hS hA ⟨hx, hb, hml, hown, hts⟩ (zf_X12_lays l dC dI h0 p5 a0 (zI b0 1 o_14.1) c0 k1 o_14.2 o_18 hqo_18 H.size) (cwV 1 hts gX12_feed_X12_lays rfl rfl rfl zhd_X12_lays ⟨Nat.le_of_ble_eq_true rfl, Nat.le_of_ble_eq_true rfl⟩) [0, 1] rfl (of_decide_eq_true rfl) [0] rfl rfl rfl rfl hl.1 rfl (Nat.le_of_ble_eq_true rfl) dX12_feed_43 ⟨Nat.le_of_ble_eq_true rfl, Nat.le_of_ble_eq_true rfl⟩ [some 0, some 1] (of_decide_eq_true rfl) (of_decide_eq_true rfl) rfl rfl rfl (fun H locs hP hD hS => ?_)
    refine lv_aload_n hx hb dX12_feed_46 rfl (lv_at hl 0 rfl) ?_
    refine va_get (D := (dC, dI)) (ci := 12) (v := .int o_18.1) (C := RX12) (T := TX12) (N := 67) hx hb hts zn_X12_feed_X12 hown hK hP 0 rfl rfl 1 (of_decide_eq_true rfl) (hts (.fieldLink RX12 13 "ShortEnoughModel" "taped" "I") zw_X12_feed_875) (fun _ h9 => h9) rfl dX12_feed_47 ?_
    have ho := Option.some.inj hfn
    subst ho
    exact zri hx hb hr hK hP hD hS hQ rfl hlocks dX12_feed_50
  have hfn := (if_neg c_1).symm.trans hfn
  refine lv_aload_n hx hb dX12_feed_13 rfl (lv_at hl 0 rfl) ?_
  refine lv_iconst (v := 0) hx hb dX12_feed_14 zci_0 ?_
  obtain ⟨o_22, hqo_22, hfn⟩ := zb_s hfn
  refine zcVi (ci := 12) (rest := []) (pc' := 18) (ws' := [(h0, .inr (12, zO a0 b0 c0)), zVi (a0 0) k1 1200 f1, zVi (a0 2) k2 5 o_22.2]) hP hK hD hS hA ⟨hx, hb, hml, hown, hts⟩ (zf_X12_refuses l dC dI h0 0 a0 b0 c0 k2 f2 o_22 hqo_22 s.heap.size) (cwV 1 hts gX12_feed_X12_refuses rfl rfl rfl zhd_X12_refuses ⟨Nat.le_of_ble_eq_true rfl, Nat.le_of_ble_eq_true rfl⟩) [0, 2] rfl (of_decide_eq_true rfl) [1] rfl rfl rfl rfl hl.1 rfl (Nat.le_of_ble_eq_true rfl) dX12_feed_15 ⟨Nat.le_of_ble_eq_true rfl, Nat.le_of_ble_eq_true rfl⟩ [some 0, none, some 1] (of_decide_eq_true rfl) (of_decide_eq_true rfl) rfl rfl rfl (fun H locs hP hD hS => ?_)
  have ho := Option.some.inj hfn
  subst ho
  exact zri hx hb hr hK hP hD hS hQ rfl hlocks dX12_feed_18
theorem zn_X12_end_X12 : ∀ w ∈ wsX120, w ∈ wsX12_end := fun _ h => List.mem_cons_of_mem _ (List.mem_append_right _ h)
theorem zw_X12_end_877 : Cond.fieldLink RX12 13 "ShortEnoughModel" "taped" "I" ∈ wsX12_end := List.mem_of_getElem? (i := 1) (by decide +kernel)
set_option maxHeartbeats 4000000 in
set_option maxRecDepth 100000 in
theorem zf_X12_end (l : Launch) (dC : Nat → ClassId) (dI : Nat → Nat → Nat) (h0 : Nat) (p1 : Int32) (a0 : Nat → Nat) (b0 : Nat → Int32) (c0 : Nat → Int64) (k1 : Nat) (f1 : Nat → Int32) (o : Int32 × Int32 × (Nat → Int32)) (hfn : fn_X12_end p1 (b0 1) f1 = some o) (sz : Nat) : zMi l yX12_end wsX12_end ({ frames := 1, cells := 0, slots := 0, locals := 21 }) (dC, dI) vwCl [.ref h0, .int p1] [(h0, .inr (12, zO a0 b0 c0)), zVi (a0 2) k1 5 f1] [(k1, .int)] (fun r _ => r = o.1 ∧ narrow .boolean (.int o.1) = .int o.1) [(h0, .inr (12, zO a0 (zI b0 1 o.2.1) c0)), zVi (a0 2) k1 5 o.2.2] [(k1, .int)] sz := by
  refine zgoi (cc := cX12_end) (maxL := 2) (ret := (some .boolean)) (C0 := RX12) (lv0 := [(0, .ref h0), (1, .int p1)]) zpl_X12 rfl rfl rfl (Nat.le_of_ble_eq_true rfl) ?_
  intro p e s m below meth c A ls Q hx hb hr hts hown hlocks hml hP hK hD hA hS hl hQ
  unfold fn_X12_end at hfn
  refine lv_iload_n hx hb dX12_end_0 rfl (lv_at hl 1 rfl) ?_
  refine lv_if_lt (tgt := 12) hx hb dX12_end_1 (of_decide_eq_true rfl) (fun c_1 => ?_) (fun c_1 => ?_)
  · have hfn := (if_pos c_1).symm.trans hfn
    refine lv_aload_n hx hb dX12_end_12 rfl (lv_at hl 0 rfl) ?_
    refine lv_iconst (v := 0) hx hb dX12_end_13 zci_0 ?_
    obtain ⟨o_2, hqo_2, hfn⟩ := zb_s hfn
    refine zcVb (ci := 12) (rest := []) (pc' := 17) (ws' := [(h0, .inr (12, zO a0 b0 c0)), zVi (a0 2) k1 5 o_2.2]) hP hK hD hS hA ⟨hx, hb, hml, hown, hts⟩ (zf_X12_isRefused l dC dI h0 0 a0 b0 c0 k1 f1 o_2 hqo_2 s.heap.size) (cwV 1 hts gX12_end_X12_isRefused rfl rfl rfl zhd_X12_isRefused ⟨Nat.le_of_ble_eq_true rfl, Nat.le_of_ble_eq_true rfl⟩) [0, 1] rfl (of_decide_eq_true rfl) [0] rfl rfl rfl rfl hl.1 rfl (Nat.le_of_ble_eq_true rfl) dX12_end_14 ⟨Nat.le_of_ble_eq_true rfl, Nat.le_of_ble_eq_true rfl⟩ [some 0, some 1] (of_decide_eq_true rfl) (of_decide_eq_true rfl) rfl rfl rfl (fun H locs hw_5n hP hD hS => ?_)
    have ho := Option.some.inj hfn
    subst ho
    exact zrz hx hb hr hw_5n hK hP hD hS hQ ⟨rfl, hw_5n⟩ hlocks dX12_end_17
  have hfn := (if_neg c_1).symm.trans hfn
  refine lv_iload_n hx hb dX12_end_4 rfl (lv_at hl 1 rfl) ?_
  refine lv_aload_n hx hb dX12_end_5 rfl (lv_at hl 0 rfl) ?_
  refine va_get (D := (dC, dI)) (ci := 12) (v := .int (b0 1)) (C := RX12) (T := TX12) (N := 67) hx hb hts zn_X12_end_X12 hown hK hP 0 rfl rfl 1 (of_decide_eq_true rfl) (hts (.fieldLink RX12 13 "ShortEnoughModel" "taped" "I") zw_X12_end_877) (fun _ h9 => h9) rfl dX12_end_6 ?_
  refine lv_icmp_le (tgt := 18) hx hb dX12_end_9 (of_decide_eq_true rfl) (fun c_6 => ?_) (fun c_6 => ?_)
  · have hfn := (if_pos c_6).symm.trans hfn
    refine lv_aload_n hx hb dX12_end_18 rfl (lv_at hl 0 rfl) ?_
    refine lv_iload_n hx hb dX12_end_19 rfl (lv_at hl 1 rfl) ?_
    refine va_put (D := (dC, dI)) (ci := 12) (v := .int p1) (ty := .int) (C := RX12) (T := TX12) (N := 67) hx hb hts zn_X12_end_X12 tyX12 tyX12_ok nmX12 hown hK hP hD hS 0 rfl rfl 1 (of_decide_eq_true rfl) (hts (.fieldLink RX12 13 "ShortEnoughModel" "taped" "I") zw_X12_end_877) (fun _ h9 => h9) rfl (tyX12_ok 1 (of_decide_eq_true rfl)) rfl rfl (Nat.le_of_ble_eq_true rfl) dX12_end_20 (fun H locs hP hD hS => ?_)
    have hP : va_P (dC, dI) vwCl [(h0, .inr (12, zO a0 (zI b0 1 p1) c0)), zVi (a0 2) k1 5 f1] H := hP
    have hD := zDW hD hP rfl
    refine lv_iconst (v := 1) hx hb dX12_end_23 zci_1 ?_
    have ho := Option.some.inj hfn
    subst ho
    exact zrz hx hb hr rfl hK hP hD hS hQ ⟨rfl, zB1⟩ hlocks dX12_end_24
  have hfn := (if_neg c_6).symm.trans hfn
  refine lv_aload_n hx hb dX12_end_12 rfl (lv_at hl 0 rfl) ?_
  refine lv_iconst (v := 0) hx hb dX12_end_13 zci_0 ?_
  obtain ⟨o_7, hqo_7, hfn⟩ := zb_s hfn
  refine zcVb (ci := 12) (rest := []) (pc' := 17) (ws' := [(h0, .inr (12, zO a0 b0 c0)), zVi (a0 2) k1 5 o_7.2]) hP hK hD hS hA ⟨hx, hb, hml, hown, hts⟩ (zf_X12_isRefused l dC dI h0 0 a0 b0 c0 k1 f1 o_7 hqo_7 s.heap.size) (cwV 1 hts gX12_end_X12_isRefused rfl rfl rfl zhd_X12_isRefused ⟨Nat.le_of_ble_eq_true rfl, Nat.le_of_ble_eq_true rfl⟩) [0, 1] rfl (of_decide_eq_true rfl) [0] rfl rfl rfl rfl hl.1 rfl (Nat.le_of_ble_eq_true rfl) dX12_end_14 ⟨Nat.le_of_ble_eq_true rfl, Nat.le_of_ble_eq_true rfl⟩ [some 0, some 1] (of_decide_eq_true rfl) (of_decide_eq_true rfl) rfl rfl rfl (fun H locs hw_10n hP hD hS => ?_)
  have ho := Option.some.inj hfn
  subst ho
  exact zrz hx hb hr hw_10n hK hP hD hS hQ ⟨rfl, hw_10n⟩ hlocks dX12_end_17
theorem zn_X12_byteAt_X12 : ∀ w ∈ wsX120, w ∈ wsX12_byteAt := fun _ h => List.mem_cons_of_mem _ (List.mem_append_right _ h)
theorem zw_X12_byteAt_879 : Cond.fieldLink RX12 26 "ShortEnoughModel" "size" "I" ∈ wsX12_byteAt := List.mem_of_getElem? (i := 1) (by decide +kernel)
theorem zw_X12_byteAt_880 : Cond.fieldLink RX12 7 "ShortEnoughModel" "tape" "[I" ∈ wsX12_byteAt := List.mem_of_getElem? (i := 2) (by decide +kernel)
set_option maxHeartbeats 4000000 in
set_option maxRecDepth 100000 in
theorem zf_X12_byteAt (l : Launch) (dC : Nat → ClassId) (dI : Nat → Nat → Nat) (h0 : Nat) (p1 : Int32) (a0 : Nat → Nat) (b0 : Nat → Int32) (c0 : Nat → Int64) (k1 : Nat) (f1 : Nat → Int32) (o : Int32) (hfn : fn_X12_byteAt p1 (b0 5) f1 = some o) (sz : Nat) : zMi l yX12_byteAt wsX12_byteAt ({ frames := 0, cells := 0, slots := 0, locals := 0 }) (dC, dI) vwCl [.ref h0, .int p1] [(h0, .inr (12, zO a0 b0 c0)), zVi (a0 0) k1 1200 f1] [(k1, .int)] (fun r _ => r = o) [(h0, .inr (12, zO a0 b0 c0)), zVi (a0 0) k1 1200 f1] [(k1, .int)] sz := by
  refine zgoi (cc := cX12_byteAt) (maxL := 2) (ret := (some .int)) (C0 := RX12) (lv0 := [(0, .ref h0), (1, .int p1)]) zpl_X12 rfl rfl rfl (Nat.le_of_ble_eq_true rfl) ?_
  intro p e s m below meth c A ls Q hx hb hr hts hown hlocks hml hP hK hD hA hS hl hQ
  unfold fn_X12_byteAt at hfn
  refine lv_iload_n hx hb dX12_byteAt_0 rfl (lv_at hl 1 rfl) ?_
  refine lv_if_lt (tgt := 21) hx hb dX12_byteAt_1 (of_decide_eq_true rfl) (fun c_1 => ?_) (fun c_1 => ?_)
  · have hfn := (if_pos c_1).symm.trans hfn
    refine lv_iconst (v := (-1)) hx hb dX12_byteAt_21 zci_m1 ?_
    have ho := Option.some.inj hfn
    subst ho
    exact zri hx hb hr hK hP hD hS hQ rfl hlocks dX12_byteAt_22
  have hfn := (if_neg c_1).symm.trans hfn
  refine lv_iload_n hx hb dX12_byteAt_4 rfl (lv_at hl 1 rfl) ?_
  refine lv_aload_n hx hb dX12_byteAt_5 rfl (lv_at hl 0 rfl) ?_
  refine va_get (D := (dC, dI)) (ci := 12) (v := .int (b0 5)) (C := RX12) (T := TX12) (N := 67) hx hb hts zn_X12_byteAt_X12 hown hK hP 0 rfl rfl 5 (of_decide_eq_true rfl) (hts (.fieldLink RX12 26 "ShortEnoughModel" "size" "I") zw_X12_byteAt_879) (fun _ h9 => h9) rfl dX12_byteAt_6 ?_
  refine lv_icmp_ge (tgt := 21) hx hb dX12_byteAt_9 (of_decide_eq_true rfl) (fun c_2 => ?_) (fun c_2 => ?_)
  · have hfn := (if_pos c_2).symm.trans hfn
    refine lv_iconst (v := (-1)) hx hb dX12_byteAt_21 zci_m1 ?_
    have ho := Option.some.inj hfn
    subst ho
    exact zri hx hb hr hK hP hD hS hQ rfl hlocks dX12_byteAt_22
  have hfn := (if_neg c_2).symm.trans hfn
  refine lv_aload_n hx hb dX12_byteAt_12 rfl (lv_at hl 0 rfl) ?_
  refine va_get (D := (dC, dI)) (ci := 12) (v := .ref (a0 0)) (C := RX12) (T := TX12) (N := 67) hx hb hts zn_X12_byteAt_X12 hown hK hP 0 rfl rfl 0 (of_decide_eq_true rfl) (hts (.fieldLink RX12 7 "ShortEnoughModel" "tape" "[I") zw_X12_byteAt_880) (fun _ h9 => h9) rfl dX12_byteAt_13 ?_
  refine lv_iload_n hx hb dX12_byteAt_16 rfl (lv_at hl 1 rfl) ?_
  obtain ⟨h_3, hfn⟩ := zg_s hfn
  refine va_iald hx hb hK hP 1 0 rfl rfl h_3 dX12_byteAt_17 ?_
  refine lv_goto (tgt := 22) hx hb dX12_byteAt_18 (of_decide_eq_true rfl) ?_
  have ho := Option.some.inj hfn
  subst ho
  exact zri hx hb hr hK hP hD hS hQ rfl hlocks dX12_byteAt_22

set_option maxHeartbeats 4000000 in
set_option maxRecDepth 100000 in
theorem zf_X12_isSmall (l : Launch) (dC : Nat → ClassId) (dI : Nat → Nat → Nat) (h0 : Nat) (p1 : Int32) (a0 : Nat → Nat) (b0 : Nat → Int32) (c0 : Nat → Int64) (k1 : Nat) (f1 : Nat → Int32) (o : Int32) (hfn : fn_X12_isSmall p1 (b0 5) f1 = some o) (sz : Nat) : zMi l yX12_isSmall wsX12_isSmall ({ frames := 1, cells := 0, slots := 0, locals := 21 }) (dC, dI) vwCl [.ref h0, .int p1] [(h0, .inr (12, zO a0 b0 c0)), zVi (a0 0) k1 1200 f1] [(k1, .int)] (fun r _ => r = o ∧ narrow .boolean (.int o) = .int o) [(h0, .inr (12, zO a0 b0 c0)), zVi (a0 0) k1 1200 f1] [(k1, .int)] sz := by
  refine zgoi (cc := cX12_isSmall) (maxL := 2) (ret := (some .boolean)) (C0 := RX12) (lv0 := [(0, .ref h0), (1, .int p1)]) zpl_X12 rfl rfl rfl (Nat.le_of_ble_eq_true rfl) ?_
  intro p e s m below meth c A ls Q hx hb hr hts hown hlocks hml hP hK hD hA hS hl hQ
  unfold fn_X12_isSmall at hfn
  refine lv_aload_n hx hb dX12_isSmall_0 rfl (lv_at hl 0 rfl) ?_
  refine lv_iload_n hx hb dX12_isSmall_1 rfl (lv_at hl 1 rfl) ?_
  obtain ⟨o_1, hqo_1, hfn⟩ := zb_s hfn
  refine zcVi (ci := 12) (rest := []) (pc' := 5) (ws' := [(h0, .inr (12, zO a0 b0 c0)), zVi (a0 0) k1 1200 f1]) hP hK hD hS hA ⟨hx, hb, hml, hown, hts⟩ (zf_X12_byteAt l dC dI h0 p1 a0 b0 c0 k1 f1 o_1 hqo_1 s.heap.size) (cwV 1 hts gX12_isSmall_X12_byteAt rfl rfl rfl zhd_X12_byteAt ⟨Nat.le_of_ble_eq_true rfl, Nat.le_of_ble_eq_true rfl⟩) [0, 1] rfl (of_decide_eq_true rfl) [0] rfl rfl rfl rfl hl.1 rfl (Nat.le_of_ble_eq_true rfl) dX12_isSmall_2 ⟨Nat.le_of_ble_eq_true rfl, Nat.le_of_ble_eq_true rfl⟩ [some 0, some 1] (of_decide_eq_true rfl) (of_decide_eq_true rfl) rfl rfl rfl (fun H locs hP hD hS => ?_)
  refine lv_bipush (v := 97) hx hb dX12_isSmall_5 zcb_97 ?_
  refine lv_icmp_lt (tgt := 24) hx hb dX12_isSmall_7 (of_decide_eq_true rfl) (fun c_5 => ?_) (fun c_5 => ?_)
  · have hfn := (if_pos c_5).symm.trans hfn
    refine lv_iconst (v := 0) hx hb dX12_isSmall_24 zci_0 ?_
    have ho := Option.some.inj hfn
    subst ho
    exact zrz hx hb hr rfl hK hP hD hS hQ ⟨rfl, zB0⟩ hlocks dX12_isSmall_25
  have hfn := (if_neg c_5).symm.trans hfn
  refine lv_aload_n hx hb dX12_isSmall_10 rfl (lv_at hl 0 rfl) ?_
  refine lv_iload_n hx hb dX12_isSmall_11 rfl (lv_at hl 1 rfl) ?_
  obtain ⟨o_6, hqo_6, hfn⟩ := zb_s hfn
  refine zcVi (ci := 12) (rest := []) (pc' := 15) (ws' := [(h0, .inr (12, zO a0 b0 c0)), zVi (a0 0) k1 1200 f1]) hP hK hD hS hA ⟨hx, hb, hml, hown, hts⟩ (zf_X12_byteAt l dC dI h0 p1 a0 b0 c0 k1 f1 o_6 hqo_6 H.size) (cwV 1 hts gX12_isSmall_X12_byteAt rfl rfl rfl zhd_X12_byteAt ⟨Nat.le_of_ble_eq_true rfl, Nat.le_of_ble_eq_true rfl⟩) [0, 1] rfl (of_decide_eq_true rfl) [0] rfl rfl rfl rfl hl.1 rfl (Nat.le_of_ble_eq_true rfl) dX12_isSmall_12 ⟨Nat.le_of_ble_eq_true rfl, Nat.le_of_ble_eq_true rfl⟩ [some 0, some 1] (of_decide_eq_true rfl) (of_decide_eq_true rfl) rfl rfl rfl (fun H locs hP hD hS => ?_)
  refine lv_bipush (v := 122) hx hb dX12_isSmall_15 zcb_122 ?_
  refine lv_icmp_gt (tgt := 24) hx hb dX12_isSmall_17 (of_decide_eq_true rfl) (fun c_10 => ?_) (fun c_10 => ?_)
  · have hfn := (if_pos c_10).symm.trans hfn
    refine lv_iconst (v := 0) hx hb dX12_isSmall_24 zci_0 ?_
    have ho := Option.some.inj hfn
    subst ho
    exact zrz hx hb hr rfl hK hP hD hS hQ ⟨rfl, zB0⟩ hlocks dX12_isSmall_25
  have hfn := (if_neg c_10).symm.trans hfn
  refine lv_iconst (v := 1) hx hb dX12_isSmall_20 zci_1 ?_
  refine lv_goto (tgt := 25) hx hb dX12_isSmall_21 (of_decide_eq_true rfl) ?_
  have ho := Option.some.inj hfn
  subst ho
  exact zrz hx hb hr rfl hK hP hD hS hQ ⟨rfl, zB1⟩ hlocks dX12_isSmall_25

set_option maxHeartbeats 4000000 in
set_option maxRecDepth 100000 in
theorem zf_X12_isDigit (l : Launch) (dC : Nat → ClassId) (dI : Nat → Nat → Nat) (h0 : Nat) (p1 : Int32) (a0 : Nat → Nat) (b0 : Nat → Int32) (c0 : Nat → Int64) (k1 : Nat) (f1 : Nat → Int32) (o : Int32) (hfn : fn_X12_isDigit p1 (b0 5) f1 = some o) (sz : Nat) : zMi l yX12_isDigit wsX12_isDigit ({ frames := 1, cells := 0, slots := 0, locals := 21 }) (dC, dI) vwCl [.ref h0, .int p1] [(h0, .inr (12, zO a0 b0 c0)), zVi (a0 0) k1 1200 f1] [(k1, .int)] (fun r _ => r = o ∧ narrow .boolean (.int o) = .int o) [(h0, .inr (12, zO a0 b0 c0)), zVi (a0 0) k1 1200 f1] [(k1, .int)] sz := by
  refine zgoi (cc := cX12_isDigit) (maxL := 2) (ret := (some .boolean)) (C0 := RX12) (lv0 := [(0, .ref h0), (1, .int p1)]) zpl_X12 rfl rfl rfl (Nat.le_of_ble_eq_true rfl) ?_
  intro p e s m below meth c A ls Q hx hb hr hts hown hlocks hml hP hK hD hA hS hl hQ
  unfold fn_X12_isDigit at hfn
  refine lv_aload_n hx hb dX12_isDigit_0 rfl (lv_at hl 0 rfl) ?_
  refine lv_iload_n hx hb dX12_isDigit_1 rfl (lv_at hl 1 rfl) ?_
  obtain ⟨o_1, hqo_1, hfn⟩ := zb_s hfn
  refine zcVi (ci := 12) (rest := []) (pc' := 5) (ws' := [(h0, .inr (12, zO a0 b0 c0)), zVi (a0 0) k1 1200 f1]) hP hK hD hS hA ⟨hx, hb, hml, hown, hts⟩ (zf_X12_byteAt l dC dI h0 p1 a0 b0 c0 k1 f1 o_1 hqo_1 s.heap.size) (cwV 1 hts gX12_isDigit_X12_byteAt rfl rfl rfl zhd_X12_byteAt ⟨Nat.le_of_ble_eq_true rfl, Nat.le_of_ble_eq_true rfl⟩) [0, 1] rfl (of_decide_eq_true rfl) [0] rfl rfl rfl rfl hl.1 rfl (Nat.le_of_ble_eq_true rfl) dX12_isDigit_2 ⟨Nat.le_of_ble_eq_true rfl, Nat.le_of_ble_eq_true rfl⟩ [some 0, some 1] (of_decide_eq_true rfl) (of_decide_eq_true rfl) rfl rfl rfl (fun H locs hP hD hS => ?_)
  refine lv_bipush (v := 48) hx hb dX12_isDigit_5 zcb_48 ?_
  refine lv_icmp_lt (tgt := 24) hx hb dX12_isDigit_7 (of_decide_eq_true rfl) (fun c_5 => ?_) (fun c_5 => ?_)
  · have hfn := (if_pos c_5).symm.trans hfn
    refine lv_iconst (v := 0) hx hb dX12_isDigit_24 zci_0 ?_
    have ho := Option.some.inj hfn
    subst ho
    exact zrz hx hb hr rfl hK hP hD hS hQ ⟨rfl, zB0⟩ hlocks dX12_isDigit_25
  have hfn := (if_neg c_5).symm.trans hfn
  refine lv_aload_n hx hb dX12_isDigit_10 rfl (lv_at hl 0 rfl) ?_
  refine lv_iload_n hx hb dX12_isDigit_11 rfl (lv_at hl 1 rfl) ?_
  obtain ⟨o_6, hqo_6, hfn⟩ := zb_s hfn
  refine zcVi (ci := 12) (rest := []) (pc' := 15) (ws' := [(h0, .inr (12, zO a0 b0 c0)), zVi (a0 0) k1 1200 f1]) hP hK hD hS hA ⟨hx, hb, hml, hown, hts⟩ (zf_X12_byteAt l dC dI h0 p1 a0 b0 c0 k1 f1 o_6 hqo_6 H.size) (cwV 1 hts gX12_isDigit_X12_byteAt rfl rfl rfl zhd_X12_byteAt ⟨Nat.le_of_ble_eq_true rfl, Nat.le_of_ble_eq_true rfl⟩) [0, 1] rfl (of_decide_eq_true rfl) [0] rfl rfl rfl rfl hl.1 rfl (Nat.le_of_ble_eq_true rfl) dX12_isDigit_12 ⟨Nat.le_of_ble_eq_true rfl, Nat.le_of_ble_eq_true rfl⟩ [some 0, some 1] (of_decide_eq_true rfl) (of_decide_eq_true rfl) rfl rfl rfl (fun H locs hP hD hS => ?_)
  refine lv_bipush (v := 57) hx hb dX12_isDigit_15 zcb_57 ?_
  refine lv_icmp_gt (tgt := 24) hx hb dX12_isDigit_17 (of_decide_eq_true rfl) (fun c_10 => ?_) (fun c_10 => ?_)
  · have hfn := (if_pos c_10).symm.trans hfn
    refine lv_iconst (v := 0) hx hb dX12_isDigit_24 zci_0 ?_
    have ho := Option.some.inj hfn
    subst ho
    exact zrz hx hb hr rfl hK hP hD hS hQ ⟨rfl, zB0⟩ hlocks dX12_isDigit_25
  have hfn := (if_neg c_10).symm.trans hfn
  refine lv_iconst (v := 1) hx hb dX12_isDigit_20 zci_1 ?_
  refine lv_goto (tgt := 25) hx hb dX12_isDigit_21 (of_decide_eq_true rfl) ?_
  have ho := Option.some.inj hfn
  subst ho
  exact zrz hx hb hr rfl hK hP hD hS hQ ⟨rfl, zB1⟩ hlocks dX12_isDigit_25
theorem zn_X12_here_X12 : ∀ w ∈ wsX120, w ∈ wsX12_here := fun _ h => List.mem_cons_of_mem _ (List.mem_append_right _ h)
theorem zw_X12_here_882 : Cond.fieldLink RX12 29 "ShortEnoughModel" "at" "I" ∈ wsX12_here := List.mem_of_getElem? (i := 1) (by decide +kernel)
set_option maxHeartbeats 4000000 in
set_option maxRecDepth 100000 in
theorem zf_X12_here (l : Launch) (dC : Nat → ClassId) (dI : Nat → Nat → Nat) (h0 : Nat) (a0 : Nat → Nat) (b0 : Nat → Int32) (c0 : Nat → Int64) (k1 : Nat) (f1 : Nat → Int32) (o : Int32 × Int32) (hfn : fn_X12_here (b0 5) (b0 6) f1 = some o) (sz : Nat) : zMi l yX12_here wsX12_here ({ frames := 1, cells := 0, slots := 0, locals := 21 }) (dC, dI) vwCl [.ref h0] [(h0, .inr (12, zO a0 b0 c0)), zVi (a0 0) k1 1200 f1] [(k1, .int)] (fun r _ => r = o.1) [(h0, .inr (12, zO a0 (zI b0 6 o.2) c0)), zVi (a0 0) k1 1200 f1] [(k1, .int)] sz := by
  refine zgoi (cc := cX12_here) (maxL := 1) (ret := (some .int)) (C0 := RX12) (lv0 := [(0, .ref h0)]) zpl_X12 rfl rfl rfl (Nat.le_of_ble_eq_true rfl) ?_
  intro p e s m below meth c A ls Q hx hb hr hts hown hlocks hml hP hK hD hA hS hl hQ
  unfold fn_X12_here at hfn
  obtain ⟨bd_1, ebd_1, hfn⟩ := zl_g hfn
  have lp_1 : ∀ (n : Nat) (s_1 : Int32) (H : Heap) (locs : List Loc) (ls : Array Slot), zl bd_1 n s_1 = some o → va_P (dC, dI) vwCl [(h0, .inr (12, zO a0 (zI b0 6 s_1) c0)), zVi (a0 0) k1 1200 f1] H → va_D A [(h0, .inr (12, zO a0 (zI b0 6 s_1) c0)), zVi (a0 0) k1 1200 f1] → va_S A s.heap H locs → lv_has ls 1 [(0, .ref h0)] → W p l e (headSpec wsX12_here ({ frames := 1, cells := 0, slots := 0, locals := 21 })).room s m ([.ref h0] : List Value).toArray below meth c H locs 0 0 Q (F0 m 0 ls []) := by
    intro n
    induction n with
    | zero => exact fun _ _ _ _ hfn => (zl_0 hfn).elim
    | succ n ih_1 =>
      intro s_1 H locs ls hfn hP hD hS hl
      have hfn := zl_s ebd_1 hfn
      refine lv_aload_n hx hb dX12_here_0 rfl (lv_at hl 0 rfl) ?_
      refine lv_aload_n hx hb dX12_here_1 rfl (lv_at hl 0 rfl) ?_
      refine va_get (D := (dC, dI)) (ci := 12) (v := .int s_1) (C := RX12) (T := TX12) (N := 67) hx hb hts zn_X12_here_X12 hown hK hP 0 rfl rfl 6 (of_decide_eq_true rfl) (hts (.fieldLink RX12 29 "ShortEnoughModel" "at" "I") zw_X12_here_882) (fun _ h9 => h9) rfl dX12_here_2 ?_
      obtain ⟨o_2, hqo_2, hfn⟩ := zb_s hfn
      refine zcVi (ci := 12) (rest := []) (pc' := 8) (ws' := [(h0, .inr (12, zO a0 (zI b0 6 s_1) c0)), zVi (a0 0) k1 1200 f1]) hP hK hD hS hA ⟨hx, hb, hml, hown, hts⟩ (zf_X12_byteAt l dC dI h0 s_1 a0 (zI b0 6 s_1) c0 k1 f1 o_2 hqo_2 H.size) (cwV 1 hts gX12_here_X12_byteAt rfl rfl rfl zhd_X12_byteAt ⟨Nat.le_of_ble_eq_true rfl, Nat.le_of_ble_eq_true rfl⟩) [0, 1] rfl (of_decide_eq_true rfl) [0] rfl rfl rfl rfl hl.1 rfl (Nat.le_of_ble_eq_true rfl) dX12_here_5 ⟨Nat.le_of_ble_eq_true rfl, Nat.le_of_ble_eq_true rfl⟩ [some 0, some 1] (of_decide_eq_true rfl) (of_decide_eq_true rfl) rfl rfl rfl (fun H locs hP hD hS => ?_)
      refine lv_bipush (v := 10) hx hb dX12_here_8 zcb_10 ?_
      refine lv_icmp_eq (tgt := 26) hx hb dX12_here_10 (of_decide_eq_true rfl) (fun c_6 => ?_) (fun c_6 => ?_)
      · have hfn := (if_pos c_6).symm.trans hfn
        refine lv_aload_n hx hb dX12_here_26 rfl (lv_at hl 0 rfl) ?_
        refine lv_dup hx hb dX12_here_27 rfl ?_
        refine va_get (D := (dC, dI)) (ci := 12) (v := .int s_1) (C := RX12) (T := TX12) (N := 67) hx hb hts zn_X12_here_X12 hown hK hP 0 rfl rfl 6 (of_decide_eq_true rfl) (hts (.fieldLink RX12 29 "ShortEnoughModel" "at" "I") zw_X12_here_882) (fun _ h9 => h9) rfl dX12_here_28 ?_
        refine lv_iconst (v := 1) hx hb dX12_here_31 zci_1 ?_
        refine lv_iadd hx hb dX12_here_32 ?_
        refine va_put (D := (dC, dI)) (ci := 12) (v := .int (s_1 + 1)) (ty := .int) (C := RX12) (T := TX12) (N := 67) hx hb hts zn_X12_here_X12 tyX12 tyX12_ok nmX12 hown hK hP hD hS 0 rfl rfl 6 (of_decide_eq_true rfl) (hts (.fieldLink RX12 29 "ShortEnoughModel" "at" "I") zw_X12_here_882) (fun _ h9 => h9) rfl (tyX12_ok 6 (of_decide_eq_true rfl)) rfl rfl (Nat.le_of_ble_eq_true rfl) dX12_here_33 (fun H locs hP hD hS => ?_)
        have hP : va_P (dC, dI) vwCl [(h0, .inr (12, zO a0 (zI b0 6 (s_1 + 1)) c0)), zVi (a0 0) k1 1200 f1] H := hP
        have hD := zDW hD hP rfl
        refine lv_goto (tgt := 0) hx hb dX12_here_36 (of_decide_eq_true rfl) ?_
        exact ih_1 (s_1 + 1) H locs ls hfn hP hD hS (lv_sub hl [0] rfl)
      have hfn := (if_neg c_6).symm.trans hfn
      refine lv_aload_n hx hb dX12_here_13 rfl (lv_at hl 0 rfl) ?_
      refine lv_aload_n hx hb dX12_here_14 rfl (lv_at hl 0 rfl) ?_
      refine va_get (D := (dC, dI)) (ci := 12) (v := .int s_1) (C := RX12) (T := TX12) (N := 67) hx hb hts zn_X12_here_X12 hown hK hP 0 rfl rfl 6 (of_decide_eq_true rfl) (hts (.fieldLink RX12 29 "ShortEnoughModel" "at" "I") zw_X12_here_882) (fun _ h9 => h9) rfl dX12_here_15 ?_
      obtain ⟨o_7, hqo_7, hfn⟩ := zb_s hfn
      refine zcVi (ci := 12) (rest := []) (pc' := 21) (ws' := [(h0, .inr (12, zO a0 (zI b0 6 s_1) c0)), zVi (a0 0) k1 1200 f1]) hP hK hD hS hA ⟨hx, hb, hml, hown, hts⟩ (zf_X12_byteAt l dC dI h0 s_1 a0 (zI b0 6 s_1) c0 k1 f1 o_7 hqo_7 H.size) (cwV 1 hts gX12_here_X12_byteAt rfl rfl rfl zhd_X12_byteAt ⟨Nat.le_of_ble_eq_true rfl, Nat.le_of_ble_eq_true rfl⟩) [0, 1] rfl (of_decide_eq_true rfl) [0] rfl rfl rfl rfl hl.1 rfl (Nat.le_of_ble_eq_true rfl) dX12_here_18 ⟨Nat.le_of_ble_eq_true rfl, Nat.le_of_ble_eq_true rfl⟩ [some 0, some 1] (of_decide_eq_true rfl) (of_decide_eq_true rfl) rfl rfl rfl (fun H locs hP hD hS => ?_)
      refine lv_bipush (v := 32) hx hb dX12_here_21 zcb_32 ?_
      refine lv_icmp_ne (tgt := 39) hx hb dX12_here_23 (of_decide_eq_true rfl) (fun c_11 => ?_) (fun c_11 => ?_)
      · have hfn := (if_neg c_11).symm.trans hfn
        refine lv_aload_n hx hb dX12_here_39 rfl (lv_at hl 0 rfl) ?_
        refine lv_aload_n hx hb dX12_here_40 rfl (lv_at hl 0 rfl) ?_
        refine va_get (D := (dC, dI)) (ci := 12) (v := .int s_1) (C := RX12) (T := TX12) (N := 67) hx hb hts zn_X12_here_X12 hown hK hP 0 rfl rfl 6 (of_decide_eq_true rfl) (hts (.fieldLink RX12 29 "ShortEnoughModel" "at" "I") zw_X12_here_882) (fun _ h9 => h9) rfl dX12_here_41 ?_
        obtain ⟨o_12, hqo_12, hfn⟩ := zb_s hfn
        refine zcVi (ci := 12) (rest := []) (pc' := 47) (ws' := [(h0, .inr (12, zO a0 (zI b0 6 s_1) c0)), zVi (a0 0) k1 1200 f1]) hP hK hD hS hA ⟨hx, hb, hml, hown, hts⟩ (zf_X12_byteAt l dC dI h0 s_1 a0 (zI b0 6 s_1) c0 k1 f1 o_12 hqo_12 H.size) (cwV 1 hts gX12_here_X12_byteAt rfl rfl rfl zhd_X12_byteAt ⟨Nat.le_of_ble_eq_true rfl, Nat.le_of_ble_eq_true rfl⟩) [0, 1] rfl (of_decide_eq_true rfl) [0] rfl rfl rfl rfl hl.1 rfl (Nat.le_of_ble_eq_true rfl) dX12_here_44 ⟨Nat.le_of_ble_eq_true rfl, Nat.le_of_ble_eq_true rfl⟩ [some 0, some 1] (of_decide_eq_true rfl) (of_decide_eq_true rfl) rfl rfl rfl (fun H locs hP hD hS => ?_)
        have ho := Option.some.inj hfn
        subst ho
        exact zri hx hb hr hK hP hD hS hQ rfl hlocks dX12_here_47
      have hfn := (if_pos c_11).symm.trans hfn
      refine lv_aload_n hx hb dX12_here_26 rfl (lv_at hl 0 rfl) ?_
      refine lv_dup hx hb dX12_here_27 rfl ?_
      refine va_get (D := (dC, dI)) (ci := 12) (v := .int s_1) (C := RX12) (T := TX12) (N := 67) hx hb hts zn_X12_here_X12 hown hK hP 0 rfl rfl 6 (of_decide_eq_true rfl) (hts (.fieldLink RX12 29 "ShortEnoughModel" "at" "I") zw_X12_here_882) (fun _ h9 => h9) rfl dX12_here_28 ?_
      refine lv_iconst (v := 1) hx hb dX12_here_31 zci_1 ?_
      refine lv_iadd hx hb dX12_here_32 ?_
      refine va_put (D := (dC, dI)) (ci := 12) (v := .int (s_1 + 1)) (ty := .int) (C := RX12) (T := TX12) (N := 67) hx hb hts zn_X12_here_X12 tyX12 tyX12_ok nmX12 hown hK hP hD hS 0 rfl rfl 6 (of_decide_eq_true rfl) (hts (.fieldLink RX12 29 "ShortEnoughModel" "at" "I") zw_X12_here_882) (fun _ h9 => h9) rfl (tyX12_ok 6 (of_decide_eq_true rfl)) rfl rfl (Nat.le_of_ble_eq_true rfl) dX12_here_33 (fun H locs hP hD hS => ?_)
      have hP : va_P (dC, dI) vwCl [(h0, .inr (12, zO a0 (zI b0 6 (s_1 + 1)) c0)), zVi (a0 0) k1 1200 f1] H := hP
      have hD := zDW hD hP rfl
      refine lv_goto (tgt := 0) hx hb dX12_here_36 (of_decide_eq_true rfl) ?_
      exact ih_1 (s_1 + 1) H locs ls hfn hP hD hS (lv_sub hl [0] rfl)
  exact lp_1 _ (b0 6) s.heap [] ls hfn hP hD hS (lv_sub hl [0] rfl)
theorem zn_X12_faults_X12 : ∀ w ∈ wsX120, w ∈ wsX12_faults := fun _ h => List.mem_cons_of_mem _ (List.mem_append_right _ h)
theorem zw_X12_faults_884 : Cond.fieldLink RX12 35 "ShortEnoughModel" "wrong" "I" ∈ wsX12_faults := List.mem_of_getElem? (i := 1) (by decide +kernel)
theorem zw_X12_faults_885 : Cond.fieldLink RX12 38 "ShortEnoughModel" "wrongAt" "I" ∈ wsX12_faults := List.mem_of_getElem? (i := 2) (by decide +kernel)
set_option maxHeartbeats 4000000 in
set_option maxRecDepth 100000 in
theorem zf_X12_faults (l : Launch) (dC : Nat → ClassId) (dI : Nat → Nat → Nat) (h0 : Nat) (p1 : Int32) (p2 : Int32) (a0 : Nat → Nat) (b0 : Nat → Int32) (c0 : Nat → Int64) (o : Int32 × Int32) (hfn : fn_X12_faults p1 p2 (b0 8) (b0 9) = some o) (sz : Nat) : zMv l yX12_faults wsX12_faults ({ frames := 0, cells := 0, slots := 0, locals := 0 }) (dC, dI) vwCl [.ref h0, .int p1, .int p2] [(h0, .inr (12, zO a0 b0 c0))] [] (fun _ => True) [(h0, .inr (12, zO a0 (zI (zI b0 8 o.1) 9 o.2) c0))] [] sz := by
  refine zgov (cc := cX12_faults) (maxL := 3) (ret := none) (C0 := RX12) (lv0 := [(0, .ref h0), (1, .int p1), (2, .int p2)]) zpl_X12 rfl rfl rfl (Nat.le_of_ble_eq_true rfl) ?_
  intro p e s m below meth c A ls Q hx hb hr hts hown hlocks hml hP hK hD hA hS hl hQ
  unfold fn_X12_faults at hfn
  refine lv_aload_n hx hb dX12_faults_0 rfl (lv_at hl 0 rfl) ?_
  refine va_get (D := (dC, dI)) (ci := 12) (v := .int (b0 8)) (C := RX12) (T := TX12) (N := 67) hx hb hts zn_X12_faults_X12 hown hK hP 0 rfl rfl 8 (of_decide_eq_true rfl) (hts (.fieldLink RX12 35 "ShortEnoughModel" "wrong" "I") zw_X12_faults_884) (fun _ h9 => h9) rfl dX12_faults_1 ?_
  refine lv_if_eq (tgt := 8) hx hb dX12_faults_4 (of_decide_eq_true rfl) (fun c_1 => ?_) (fun c_1 => ?_)
  · have hfn := (if_pos c_1).symm.trans hfn
    refine lv_aload_n hx hb dX12_faults_8 rfl (lv_at hl 0 rfl) ?_
    refine lv_iload_n hx hb dX12_faults_9 rfl (lv_at hl 1 rfl) ?_
    refine va_put (D := (dC, dI)) (ci := 12) (v := .int p1) (ty := .int) (C := RX12) (T := TX12) (N := 67) hx hb hts zn_X12_faults_X12 tyX12 tyX12_ok nmX12 hown hK hP hD hS 0 rfl rfl 8 (of_decide_eq_true rfl) (hts (.fieldLink RX12 35 "ShortEnoughModel" "wrong" "I") zw_X12_faults_884) (fun _ h9 => h9) rfl (tyX12_ok 8 (of_decide_eq_true rfl)) rfl rfl (Nat.le_of_ble_eq_true rfl) dX12_faults_10 (fun H locs hP hD hS => ?_)
    have hP : va_P (dC, dI) vwCl [(h0, .inr (12, zO a0 (zI b0 8 p1) c0))] H := hP
    have hD := zDW hD hP rfl
    refine lv_aload_n hx hb dX12_faults_13 rfl (lv_at hl 0 rfl) ?_
    refine lv_iload_n hx hb dX12_faults_14 rfl (lv_at hl 2 rfl) ?_
    refine va_put (D := (dC, dI)) (ci := 12) (v := .int p2) (ty := .int) (C := RX12) (T := TX12) (N := 67) hx hb hts zn_X12_faults_X12 tyX12 tyX12_ok nmX12 hown hK hP hD hS 0 rfl rfl 9 (of_decide_eq_true rfl) (hts (.fieldLink RX12 38 "ShortEnoughModel" "wrongAt" "I") zw_X12_faults_885) (fun _ h9 => h9) rfl (tyX12_ok 9 (of_decide_eq_true rfl)) rfl rfl (Nat.le_of_ble_eq_true rfl) dX12_faults_15 (fun H locs hP hD hS => ?_)
    have hP : va_P (dC, dI) vwCl [(h0, .inr (12, zO a0 (zI (zI b0 8 p1) 9 p2) c0))] H := hP
    have hD := zDW hD hP rfl
    have ho := Option.some.inj hfn
    subst ho
    exact zrv hx hb hr hK hP hD hS hQ trivial hlocks dX12_faults_18
  have hfn := (if_neg c_1).symm.trans hfn
  have ho := Option.some.inj hfn
  subst ho
  exact zrv hx hb hr hK hP hD hS hQ trivial hlocks dX12_faults_7
theorem zn_X12_goesWell_X12 : ∀ w ∈ wsX120, w ∈ wsX12_goesWell := fun _ h => List.mem_cons_of_mem _ (List.mem_append_right _ h)
theorem zw_X12_goesWell_887 : Cond.fieldLink RX12 35 "ShortEnoughModel" "wrong" "I" ∈ wsX12_goesWell := List.mem_of_getElem? (i := 1) (by decide +kernel)
set_option maxHeartbeats 4000000 in
set_option maxRecDepth 100000 in
theorem zf_X12_goesWell (l : Launch) (dC : Nat → ClassId) (dI : Nat → Nat → Nat) (h0 : Nat) (a0 : Nat → Nat) (b0 : Nat → Int32) (c0 : Nat → Int64) (o : Int32) (hfn : fn_X12_goesWell (b0 8) = some o) (sz : Nat) : zMi l yX12_goesWell wsX12_goesWell ({ frames := 0, cells := 0, slots := 0, locals := 0 }) (dC, dI) vwCl [.ref h0] [(h0, .inr (12, zO a0 b0 c0))] [] (fun r _ => r = o ∧ narrow .boolean (.int o) = .int o) [(h0, .inr (12, zO a0 b0 c0))] [] sz := by
  refine zgoi (cc := cX12_goesWell) (maxL := 1) (ret := (some .boolean)) (C0 := RX12) (lv0 := [(0, .ref h0)]) zpl_X12 rfl rfl rfl (Nat.le_of_ble_eq_true rfl) ?_
  intro p e s m below meth c A ls Q hx hb hr hts hown hlocks hml hP hK hD hA hS hl hQ
  unfold fn_X12_goesWell at hfn
  refine lv_aload_n hx hb dX12_goesWell_0 rfl (lv_at hl 0 rfl) ?_
  refine va_get (D := (dC, dI)) (ci := 12) (v := .int (b0 8)) (C := RX12) (T := TX12) (N := 67) hx hb hts zn_X12_goesWell_X12 hown hK hP 0 rfl rfl 8 (of_decide_eq_true rfl) (hts (.fieldLink RX12 35 "ShortEnoughModel" "wrong" "I") zw_X12_goesWell_887) (fun _ h9 => h9) rfl dX12_goesWell_1 ?_
  refine lv_if_ne (tgt := 11) hx hb dX12_goesWell_4 (of_decide_eq_true rfl) (fun c_1 => ?_) (fun c_1 => ?_)
  · have hfn := (if_neg c_1).symm.trans hfn
    refine lv_iconst (v := 0) hx hb dX12_goesWell_11 zci_0 ?_
    have ho := Option.some.inj hfn
    subst ho
    exact zrz hx hb hr rfl hK hP hD hS hQ ⟨rfl, zB0⟩ hlocks dX12_goesWell_12
  have hfn := (if_pos c_1).symm.trans hfn
  refine lv_iconst (v := 1) hx hb dX12_goesWell_7 zci_1 ?_
  refine lv_goto (tgt := 12) hx hb dX12_goesWell_8 (of_decide_eq_true rfl) ?_
  have ho := Option.some.inj hfn
  subst ho
  exact zrz hx hb hr rfl hK hP hD hS hQ ⟨rfl, zB1⟩ hlocks dX12_goesWell_12
theorem zn_X12_mark_X12 : ∀ w ∈ wsX120, w ∈ wsX12_mark := fun _ h => List.mem_cons_of_mem _ (List.mem_append_right _ h)
theorem zw_X12_mark_889 : Cond.fieldLink RX12 29 "ShortEnoughModel" "at" "I" ∈ wsX12_mark := List.mem_of_getElem? (i := 1) (by decide +kernel)
set_option maxHeartbeats 4000000 in
set_option maxRecDepth 100000 in
theorem zf_X12_mark (l : Launch) (dC : Nat → ClassId) (dI : Nat → Nat → Nat) (h0 : Nat) (p1 : Int32) (a0 : Nat → Nat) (b0 : Nat → Int32) (c0 : Nat → Int64) (k1 : Nat) (f1 : Nat → Int32) (o : Int32 × Int32 × Int32) (hfn : fn_X12_mark p1 (b0 5) (b0 6) (b0 8) (b0 9) f1 = some o) (sz : Nat) : zMv l yX12_mark wsX12_mark ({ frames := 2, cells := 0, slots := 0, locals := 41 }) (dC, dI) vwCl [.ref h0, .int p1] [(h0, .inr (12, zO a0 b0 c0)), zVi (a0 0) k1 1200 f1] [(k1, .int)] (fun _ => True) [(h0, .inr (12, zO a0 (zI (zI (zI b0 6 o.1) 8 o.2.1) 9 o.2.2) c0)), zVi (a0 0) k1 1200 f1] [(k1, .int)] sz := by
  refine zgov (cc := cX12_mark) (maxL := 2) (ret := none) (C0 := RX12) (lv0 := [(0, .ref h0), (1, .int p1)]) zpl_X12 rfl rfl rfl (Nat.le_of_ble_eq_true rfl) ?_
  intro p e s m below meth c A ls Q hx hb hr hts hown hlocks hml hP hK hD hA hS hl hQ
  unfold fn_X12_mark at hfn
  refine lv_aload_n hx hb dX12_mark_0 rfl (lv_at hl 0 rfl) ?_
  obtain ⟨o_1, hqo_1, hfn⟩ := zb_s hfn
  refine zcVb (ci := 12) (rest := []) (pc' := 4) (ws' := [(h0, .inr (12, zO a0 b0 c0)), zVi (a0 0) k1 1200 f1]) hP hK hD hS hA ⟨hx, hb, hml, hown, hts⟩ (zf_X12_goesWell l dC dI h0 a0 b0 c0 o_1 hqo_1 s.heap.size) (cwV 0 hts gX12_mark_X12_goesWell rfl rfl rfl zhd_X12_goesWell ⟨Nat.le_of_ble_eq_true rfl, Nat.le_of_ble_eq_true rfl⟩) [0] rfl (of_decide_eq_true rfl) [] rfl rfl rfl rfl hl.1 rfl (Nat.le_of_ble_eq_true rfl) dX12_mark_1 ⟨Nat.le_of_ble_eq_true rfl, Nat.le_of_ble_eq_true rfl⟩ [some 0] (of_decide_eq_true rfl) (of_decide_eq_true rfl) rfl rfl rfl (fun H locs hw_4n hP hD hS => ?_)
  refine lv_if_ne (tgt := 8) hx hb dX12_mark_4 (of_decide_eq_true rfl) (fun c_5 => ?_) (fun c_5 => ?_)
  · have hfn := (if_neg c_5).symm.trans hfn
    refine lv_aload_n hx hb dX12_mark_8 rfl (lv_at hl 0 rfl) ?_
    obtain ⟨o_6, hqo_6, hfn⟩ := zb_s hfn
    refine zcVi (ci := 12) (rest := []) (pc' := 12) (ws' := [(h0, .inr (12, zO a0 (zI b0 6 o_6.2) c0)), zVi (a0 0) k1 1200 f1]) hP hK hD hS hA ⟨hx, hb, hml, hown, hts⟩ (zf_X12_here l dC dI h0 a0 b0 c0 k1 f1 o_6 hqo_6 H.size) (cwV 0 hts gX12_mark_X12_here rfl rfl rfl zhd_X12_here ⟨Nat.le_of_ble_eq_true rfl, Nat.le_of_ble_eq_true rfl⟩) [0, 1] rfl (of_decide_eq_true rfl) [0] rfl rfl rfl rfl hl.1 rfl (Nat.le_of_ble_eq_true rfl) dX12_mark_9 ⟨Nat.le_of_ble_eq_true rfl, Nat.le_of_ble_eq_true rfl⟩ [some 0, some 1] (of_decide_eq_true rfl) (of_decide_eq_true rfl) rfl rfl rfl (fun H locs hP hD hS => ?_)
    refine lv_iload_n hx hb dX12_mark_12 rfl (lv_at hl 1 rfl) ?_
    refine lv_icmp_ne (tgt := 29) hx hb dX12_mark_13 (of_decide_eq_true rfl) (fun c_10 => ?_) (fun c_10 => ?_)
    · have hfn := (if_neg c_10).symm.trans hfn
      refine lv_aload_n hx hb dX12_mark_29 rfl (lv_at hl 0 rfl) ?_
      refine lv_iconst (v := 1) hx hb dX12_mark_30 zci_1 ?_
      refine lv_aload_n hx hb dX12_mark_31 rfl (lv_at hl 0 rfl) ?_
      refine va_get (D := (dC, dI)) (ci := 12) (v := .int o_6.2) (C := RX12) (T := TX12) (N := 67) hx hb hts zn_X12_mark_X12 hown hK hP 0 rfl rfl 6 (of_decide_eq_true rfl) (hts (.fieldLink RX12 29 "ShortEnoughModel" "at" "I") zw_X12_mark_889) (fun _ h9 => h9) rfl dX12_mark_32 ?_
      obtain ⟨o_11, hqo_11, hfn⟩ := zb_s hfn
      refine zcVv (ci := 12) (rest := []) (pc' := 38) (ws' := [(h0, .inr (12, zO a0 (zI (zI (zI b0 6 o_6.2) 8 o_11.1) 9 o_11.2) c0)), zVi (a0 0) k1 1200 f1]) hP hK hD hS hA ⟨hx, hb, hml, hown, hts⟩ (zf_X12_faults l dC dI h0 1 o_6.2 a0 (zI b0 6 o_6.2) c0 o_11 hqo_11 H.size) (cwV 2 hts gX12_mark_X12_faults rfl rfl rfl zhd_X12_faults ⟨Nat.le_of_ble_eq_true rfl, Nat.le_of_ble_eq_true rfl⟩) [0] rfl (of_decide_eq_true rfl) [] rfl rfl rfl rfl hl.1 rfl (Nat.le_of_ble_eq_true rfl) dX12_mark_35 ⟨Nat.le_of_ble_eq_true rfl, Nat.le_of_ble_eq_true rfl⟩ [some 0] (of_decide_eq_true rfl) (of_decide_eq_true rfl) rfl rfl rfl (fun H locs hP hD hS => ?_)
      have ho := Option.some.inj hfn
      subst ho
      exact zrv hx hb hr hK hP hD hS hQ trivial hlocks dX12_mark_38
    have hfn := (if_pos c_10).symm.trans hfn
    refine lv_aload_n hx hb dX12_mark_16 rfl (lv_at hl 0 rfl) ?_
    refine lv_dup hx hb dX12_mark_17 rfl ?_
    refine va_get (D := (dC, dI)) (ci := 12) (v := .int o_6.2) (C := RX12) (T := TX12) (N := 67) hx hb hts zn_X12_mark_X12 hown hK hP 0 rfl rfl 6 (of_decide_eq_true rfl) (hts (.fieldLink RX12 29 "ShortEnoughModel" "at" "I") zw_X12_mark_889) (fun _ h9 => h9) rfl dX12_mark_18 ?_
    refine lv_iconst (v := 1) hx hb dX12_mark_21 zci_1 ?_
    refine lv_iadd hx hb dX12_mark_22 ?_
    refine va_put (D := (dC, dI)) (ci := 12) (v := .int (o_6.2 + 1)) (ty := .int) (C := RX12) (T := TX12) (N := 67) hx hb hts zn_X12_mark_X12 tyX12 tyX12_ok nmX12 hown hK hP hD hS 0 rfl rfl 6 (of_decide_eq_true rfl) (hts (.fieldLink RX12 29 "ShortEnoughModel" "at" "I") zw_X12_mark_889) (fun _ h9 => h9) rfl (tyX12_ok 6 (of_decide_eq_true rfl)) rfl rfl (Nat.le_of_ble_eq_true rfl) dX12_mark_23 (fun H locs hP hD hS => ?_)
    have hP : va_P (dC, dI) vwCl [(h0, .inr (12, zO a0 (zI b0 6 (o_6.2 + 1)) c0)), zVi (a0 0) k1 1200 f1] H := hP
    have hD := zDW hD hP rfl
    refine lv_goto (tgt := 38) hx hb dX12_mark_26 (of_decide_eq_true rfl) ?_
    have ho := Option.some.inj hfn
    subst ho
    exact zrv hx hb hr hK hP hD hS hQ trivial hlocks dX12_mark_38
  have hfn := (if_pos c_5).symm.trans hfn
  have ho := Option.some.inj hfn
  subst ho
  exact zrv hx hb hr hK hP hD hS hQ trivial hlocks dX12_mark_7
theorem zn_X12_own_X12 : ∀ w ∈ wsX120, w ∈ wsX12_own := fun _ h => List.mem_cons_of_mem _ (List.mem_append_right _ h)
theorem zw_X12_own_891 : Cond.fieldLink RX12 41 "ShortEnoughModel" "ownLetters" "[I" ∈ wsX12_own := List.mem_of_getElem? (i := 1) (by decide +kernel)
theorem zw_X12_own_892 : Cond.fieldLink RX12 32 "ShortEnoughModel" "begun" "I" ∈ wsX12_own := List.mem_of_getElem? (i := 2) (by decide +kernel)
theorem zw_X12_own_893 : Cond.fieldLink RX12 29 "ShortEnoughModel" "at" "I" ∈ wsX12_own := List.mem_of_getElem? (i := 3) (by decide +kernel)
theorem zw_X12_own_894 : Cond.fieldLink RX12 7 "ShortEnoughModel" "tape" "[I" ∈ wsX12_own := List.mem_of_getElem? (i := 4) (by decide +kernel)
set_option maxHeartbeats 4000000 in
set_option maxRecDepth 100000 in
theorem zf_X12_own (l : Launch) (dC : Nat → ClassId) (dI : Nat → Nat → Nat) (h0 : Nat) (a0 : Nat → Nat) (b0 : Nat → Int32) (c0 : Nat → Int64) (k1 : Nat) (f1 : Nat → Int32) (k2 : Nat) (f2 : Nat → Int32) (o : Int32) (hfn : fn_X12_own (b0 6) (b0 7) f1 f2 = some o) (sz : Nat) : zMi l yX12_own wsX12_own ({ frames := 0, cells := 0, slots := 0, locals := 0 }) (dC, dI) vwCl [.ref h0] [(h0, .inr (12, zO a0 b0 c0)), zVi (a0 10) k1 71 f1, zVi (a0 0) k2 1200 f2] [(k1, .int), (k2, .int)] (fun r _ => r = o) [(h0, .inr (12, zO a0 b0 c0)), zVi (a0 10) k1 71 f1, zVi (a0 0) k2 1200 f2] [(k1, .int), (k2, .int)] sz := by
  refine zgoi (cc := cX12_own) (maxL := 4) (ret := (some .int)) (C0 := RX12) (lv0 := [(0, .ref h0)]) zpl_X12 rfl rfl rfl (Nat.le_of_ble_eq_true rfl) ?_
  intro p e s m below meth c A ls Q hx hb hr hts hown hlocks hml hP hK hD hA hS hl hQ
  unfold fn_X12_own at hfn
  refine lv_iconst (v := 0) hx hb dX12_own_0 zci_0 ?_
  refine lv_istore_n (lv' := [(1, .int 0), (0, .ref h0)]) hx hb dX12_own_1 rfl hl (of_decide_eq_true rfl) rfl (fun ls hl => ?_)
  refine lv_iconst (v := 0) hx hb dX12_own_2 zci_0 ?_
  refine lv_istore_n (lv' := [(2, .int 0), (1, .int 0), (0, .ref h0)]) hx hb dX12_own_3 rfl hl (of_decide_eq_true rfl) rfl (fun ls hl => ?_)
  obtain ⟨bd_1, ebd_1, hfn⟩ := zl_g hfn
  have lp_1 : ∀ (n : Nat) (s_1 : Int32 × Int32) (H : Heap) (locs : List Loc) (ls : Array Slot), zl bd_1 n s_1 = some o → va_P (dC, dI) vwCl [(h0, .inr (12, zO a0 b0 c0)), zVi (a0 10) k1 71 f1, zVi (a0 0) k2 1200 f2] H → va_D A [(h0, .inr (12, zO a0 b0 c0)), zVi (a0 10) k1 71 f1, zVi (a0 0) k2 1200 f2] → va_S A s.heap H locs → lv_has ls 4 [(2, .int s_1.2), (1, .int s_1.1), (0, .ref h0)] → W p l e (headSpec wsX12_own ({ frames := 0, cells := 0, slots := 0, locals := 0 })).room s m ([.ref h0] : List Value).toArray below meth c H locs 0 0 Q (F0 m 4 ls []) := by
    intro n
    induction n with
    | zero => exact fun _ _ _ _ hfn => (zl_0 hfn).elim
    | succ n ih_1 =>
      intro s_1 H locs ls hfn hP hD hS hl
      have hfn := zl_s ebd_1 hfn
      refine lv_iload_n hx hb dX12_own_4 rfl (lv_at hl 0 rfl) ?_
      refine lv_bipush (v := 12) hx hb dX12_own_5 zcb_12 ?_
      refine lv_icmp_gt (tgt := 117) hx hb dX12_own_7 (of_decide_eq_true rfl) (fun c_2 => ?_) (fun c_2 => ?_)
      · have hfn := (if_pos c_2).symm.trans hfn
        refine lv_iconst (v := (-1)) hx hb dX12_own_117 zci_m1 ?_
        have ho := Option.some.inj hfn
        subst ho
        exact zri hx hb hr hK hP hD hS hQ rfl hlocks dX12_own_118
      have hfn := (if_neg c_2).symm.trans hfn
      refine lv_iconst (v := 0) hx hb dX12_own_10 zci_0 ?_
      refine lv_istore_n (lv' := [(3, .int 0), (2, .int s_1.2), (1, .int s_1.1), (0, .ref h0)]) hx hb dX12_own_11 rfl hl (of_decide_eq_true rfl) rfl (fun ls hl => ?_)
      obtain ⟨bd_3, ebd_3, hfn⟩ := zl_g hfn
      have lp_3 : ∀ (n : Nat) (s_3 : Int32) (H : Heap) (locs : List Loc) (ls : Array Slot), zl bd_3 n s_3 = some o → va_P (dC, dI) vwCl [(h0, .inr (12, zO a0 b0 c0)), zVi (a0 10) k1 71 f1, zVi (a0 0) k2 1200 f2] H → va_D A [(h0, .inr (12, zO a0 b0 c0)), zVi (a0 10) k1 71 f1, zVi (a0 0) k2 1200 f2] → va_S A s.heap H locs → lv_has ls 4 [(3, .int s_3), (2, .int s_1.2), (1, .int s_1.1), (0, .ref h0)] → W p l e (headSpec wsX12_own ({ frames := 0, cells := 0, slots := 0, locals := 0 })).room s m ([.ref h0] : List Value).toArray below meth c H locs 0 0 Q (F0 m 12 ls []) := by
        intro n
        induction n with
        | zero => exact fun _ _ _ _ hfn => (zl_0 hfn).elim
        | succ n ih_3 =>
          intro s_3 H locs ls hfn hP hD hS hl
          have hfn := zl_s ebd_3 hfn
          refine lv_aload_n hx hb dX12_own_12 rfl (lv_at hl 3 rfl) ?_
          refine va_get (D := (dC, dI)) (ci := 12) (v := .ref (a0 10)) (C := RX12) (T := TX12) (N := 67) hx hb hts zn_X12_own_X12 hown hK hP 0 rfl rfl 10 (of_decide_eq_true rfl) (hts (.fieldLink RX12 41 "ShortEnoughModel" "ownLetters" "[I") zw_X12_own_891) (fun _ h9 => h9) rfl dX12_own_13 ?_
          refine lv_iload_n hx hb dX12_own_16 rfl (lv_at hl 2 rfl) ?_
          refine lv_iload_n hx hb dX12_own_17 rfl (lv_at hl 0 rfl) ?_
          refine lv_iadd hx hb dX12_own_18 ?_
          obtain ⟨h_4, hfn⟩ := zg_s hfn
          refine va_iald hx hb hK hP 1 0 rfl rfl h_4 dX12_own_19 ?_
          obtain ⟨j_5, ej_5, hfn⟩ := zj_g hfn
          have jp_5 : ∀ (s_5 : Unit) (H : Heap) (locs : List Loc) (ls : Array Slot), j_5 s_5 = some o → va_P (dC, dI) vwCl [(h0, .inr (12, zO a0 b0 c0)), zVi (a0 10) k1 71 f1, zVi (a0 0) k2 1200 f2] H → va_D A [(h0, .inr (12, zO a0 b0 c0)), zVi (a0 10) k1 71 f1, zVi (a0 0) k2 1200 f2] → va_S A s.heap H locs → lv_has ls 4 [(3, .int s_3), (2, .int s_1.2), (1, .int s_1.1), (0, .ref h0)] → W p l e (headSpec wsX12_own ({ frames := 0, cells := 0, slots := 0, locals := 0 })).room s m ([.ref h0] : List Value).toArray below meth c H locs 0 0 Q (F0 m 67 ls []) := by
            intro s_5 H locs ls hfn hP hD hS hl
            have hfn := zj_s ej_5 hfn
            refine lv_aload_n hx hb dX12_own_67 rfl (lv_at hl 3 rfl) ?_
            refine va_get (D := (dC, dI)) (ci := 12) (v := .ref (a0 10)) (C := RX12) (T := TX12) (N := 67) hx hb hts zn_X12_own_X12 hown hK hP 0 rfl rfl 10 (of_decide_eq_true rfl) (hts (.fieldLink RX12 41 "ShortEnoughModel" "ownLetters" "[I") zw_X12_own_891) (fun _ h9 => h9) rfl dX12_own_68 ?_
            refine lv_iload_n hx hb dX12_own_71 rfl (lv_at hl 2 rfl) ?_
            refine lv_iload_n hx hb dX12_own_72 rfl (lv_at hl 0 rfl) ?_
            refine lv_iadd hx hb dX12_own_73 ?_
            obtain ⟨h_6, hfn⟩ := zg_s hfn
            refine va_iald hx hb hK hP 1 0 rfl rfl h_6 dX12_own_74 ?_
            obtain ⟨j_7, ej_7, hfn⟩ := zj_g hfn
            have jp_7 : ∀ (s_7 : Unit) (H : Heap) (locs : List Loc) (ls : Array Slot), j_7 s_7 = some o → va_P (dC, dI) vwCl [(h0, .inr (12, zO a0 b0 c0)), zVi (a0 10) k1 71 f1, zVi (a0 0) k2 1200 f2] H → va_D A [(h0, .inr (12, zO a0 b0 c0)), zVi (a0 10) k1 71 f1, zVi (a0 0) k2 1200 f2] → va_S A s.heap H locs → lv_has ls 4 [(2, .int s_1.2), (1, .int s_1.1), (0, .ref h0)] → W p l e (headSpec wsX12_own ({ frames := 0, cells := 0, slots := 0, locals := 0 })).room s m ([.ref h0] : List Value).toArray below meth c H locs 0 0 Q (F0 m 93 ls []) := by
              intro s_7 H locs ls hfn hP hD hS hl
              have hfn := zj_s ej_7 hfn
              obtain ⟨bd_8, ebd_8, hfn⟩ := zl_g hfn
              have lp_8 : ∀ (n : Nat) (s_8 : Int32) (H : Heap) (locs : List Loc) (ls : Array Slot), zl bd_8 n s_8 = some o → va_P (dC, dI) vwCl [(h0, .inr (12, zO a0 b0 c0)), zVi (a0 10) k1 71 f1, zVi (a0 0) k2 1200 f2] H → va_D A [(h0, .inr (12, zO a0 b0 c0)), zVi (a0 10) k1 71 f1, zVi (a0 0) k2 1200 f2] → va_S A s.heap H locs → lv_has ls 4 [(2, .int s_1.2), (1, .int s_8), (0, .ref h0)] → W p l e (headSpec wsX12_own ({ frames := 0, cells := 0, slots := 0, locals := 0 })).room s m ([.ref h0] : List Value).toArray below meth c H locs 0 0 Q (F0 m 93 ls []) := by
                intro n
                induction n with
                | zero => exact fun _ _ _ _ hfn => (zl_0 hfn).elim
                | succ n ih_8 =>
                  intro s_8 H locs ls hfn hP hD hS hl
                  have hfn := zl_s ebd_8 hfn
                  refine lv_aload_n hx hb dX12_own_93 rfl (lv_at hl 2 rfl) ?_
                  refine va_get (D := (dC, dI)) (ci := 12) (v := .ref (a0 10)) (C := RX12) (T := TX12) (N := 67) hx hb hts zn_X12_own_X12 hown hK hP 0 rfl rfl 10 (of_decide_eq_true rfl) (hts (.fieldLink RX12 41 "ShortEnoughModel" "ownLetters" "[I") zw_X12_own_891) (fun _ h9 => h9) rfl dX12_own_94 ?_
                  refine lv_iload_n hx hb dX12_own_97 rfl (lv_at hl 1 rfl) ?_
                  obtain ⟨h_9, hfn⟩ := zg_s hfn
                  refine va_iald hx hb hK hP 1 0 rfl rfl h_9 dX12_own_98 ?_
                  refine lv_if_eq (tgt := 108) hx hb dX12_own_99 (of_decide_eq_true rfl) (fun c_10 => ?_) (fun c_10 => ?_)
                  · have hfn := (if_pos c_10).symm.trans hfn
                    refine lv_iinc (v := (s_8 + 1)) (lv' := [(1, .int (s_8 + 1)), (2, .int s_1.2), (0, .ref h0)]) hx hb dX12_own_108 hl (k := 1) rfl rfl (of_decide_eq_true rfl) rfl (fun ls hl => ?_)
                    refine lv_iinc (v := (s_1.2 + 1)) (lv' := [(2, .int (s_1.2 + 1)), (1, .int (s_8 + 1)), (0, .ref h0)]) hx hb dX12_own_111 hl (k := 1) rfl rfl (of_decide_eq_true rfl) rfl (fun ls hl => ?_)
                    refine lv_goto (tgt := 4) hx hb dX12_own_114 (of_decide_eq_true rfl) ?_
                    exact ih_1 ((s_8 + 1), (s_1.2 + 1)) H locs ls hfn hP hD hS (lv_sub hl [0, 1, 2] rfl)
                  have hfn := (if_neg c_10).symm.trans hfn
                  refine lv_iinc (v := (s_8 + 1)) (lv' := [(1, .int (s_8 + 1)), (2, .int s_1.2), (0, .ref h0)]) hx hb dX12_own_102 hl (k := 1) rfl rfl (of_decide_eq_true rfl) rfl (fun ls hl => ?_)
                  refine lv_goto (tgt := 93) hx hb dX12_own_105 (of_decide_eq_true rfl) ?_
                  exact ih_8 (s_8 + 1) H locs ls hfn hP hD hS (lv_sub hl [1, 0, 2] rfl)
              exact lp_8 _ s_1.1 H locs ls hfn hP hD hS (lv_sub hl [0, 1, 2] rfl)
            refine lv_if_ne (tgt := 93) hx hb dX12_own_75 (of_decide_eq_true rfl) (fun c_11 => ?_) (fun c_11 => ?_)
            · have hfn := (if_neg c_11).symm.trans hfn
              exact jp_7 () H locs ls hfn hP hD hS (lv_sub hl [1, 2, 3] rfl)
            have hfn := (if_pos c_11).symm.trans hfn
            refine lv_aload_n hx hb dX12_own_78 rfl (lv_at hl 3 rfl) ?_
            refine va_get (D := (dC, dI)) (ci := 12) (v := .int (b0 7)) (C := RX12) (T := TX12) (N := 67) hx hb hts zn_X12_own_X12 hown hK hP 0 rfl rfl 7 (of_decide_eq_true rfl) (hts (.fieldLink RX12 32 "ShortEnoughModel" "begun" "I") zw_X12_own_892) (fun _ h9 => h9) rfl dX12_own_79 ?_
            refine lv_iload_n hx hb dX12_own_82 rfl (lv_at hl 0 rfl) ?_
            refine lv_iadd hx hb dX12_own_83 ?_
            refine lv_aload_n hx hb dX12_own_84 rfl (lv_at hl 3 rfl) ?_
            refine va_get (D := (dC, dI)) (ci := 12) (v := .int (b0 6)) (C := RX12) (T := TX12) (N := 67) hx hb hts zn_X12_own_X12 hown hK hP 0 rfl rfl 6 (of_decide_eq_true rfl) (hts (.fieldLink RX12 29 "ShortEnoughModel" "at" "I") zw_X12_own_893) (fun _ h9 => h9) rfl dX12_own_85 ?_
            refine lv_icmp_ne (tgt := 93) hx hb dX12_own_88 (of_decide_eq_true rfl) (fun c_12 => ?_) (fun c_12 => ?_)
            · have hfn := (if_neg c_12).symm.trans hfn
              exact jp_7 () H locs ls hfn hP hD hS (lv_sub hl [1, 2, 3] rfl)
            have hfn := (if_pos c_12).symm.trans hfn
            refine lv_iload_n hx hb dX12_own_91 rfl (lv_at hl 1 rfl) ?_
            have ho := Option.some.inj hfn
            subst ho
            exact zri hx hb hr hK hP hD hS hQ rfl hlocks dX12_own_92
          refine lv_if_eq (tgt := 67) hx hb dX12_own_20 (of_decide_eq_true rfl) (fun c_13 => ?_) (fun c_13 => ?_)
          · have hfn := (if_pos c_13).symm.trans hfn
            exact jp_5 () H locs ls hfn hP hD hS (lv_sub hl [0, 1, 2, 3] rfl)
          have hfn := (if_neg c_13).symm.trans hfn
          refine lv_aload_n hx hb dX12_own_23 rfl (lv_at hl 3 rfl) ?_
          refine va_get (D := (dC, dI)) (ci := 12) (v := .int (b0 7)) (C := RX12) (T := TX12) (N := 67) hx hb hts zn_X12_own_X12 hown hK hP 0 rfl rfl 7 (of_decide_eq_true rfl) (hts (.fieldLink RX12 32 "ShortEnoughModel" "begun" "I") zw_X12_own_892) (fun _ h9 => h9) rfl dX12_own_24 ?_
          refine lv_iload_n hx hb dX12_own_27 rfl (lv_at hl 0 rfl) ?_
          refine lv_iadd hx hb dX12_own_28 ?_
          refine lv_aload_n hx hb dX12_own_29 rfl (lv_at hl 3 rfl) ?_
          refine va_get (D := (dC, dI)) (ci := 12) (v := .int (b0 6)) (C := RX12) (T := TX12) (N := 67) hx hb hts zn_X12_own_X12 hown hK hP 0 rfl rfl 6 (of_decide_eq_true rfl) (hts (.fieldLink RX12 29 "ShortEnoughModel" "at" "I") zw_X12_own_893) (fun _ h9 => h9) rfl dX12_own_30 ?_
          refine lv_icmp_ge (tgt := 67) hx hb dX12_own_33 (of_decide_eq_true rfl) (fun c_14 => ?_) (fun c_14 => ?_)
          · have hfn := (if_pos c_14).symm.trans hfn
            exact jp_5 () H locs ls hfn hP hD hS (lv_sub hl [0, 1, 2, 3] rfl)
          have hfn := (if_neg c_14).symm.trans hfn
          refine lv_aload_n hx hb dX12_own_36 rfl (lv_at hl 3 rfl) ?_
          refine va_get (D := (dC, dI)) (ci := 12) (v := .ref (a0 0)) (C := RX12) (T := TX12) (N := 67) hx hb hts zn_X12_own_X12 hown hK hP 0 rfl rfl 0 (of_decide_eq_true rfl) (hts (.fieldLink RX12 7 "ShortEnoughModel" "tape" "[I") zw_X12_own_894) (fun _ h9 => h9) rfl dX12_own_37 ?_
          refine lv_aload_n hx hb dX12_own_40 rfl (lv_at hl 3 rfl) ?_
          refine va_get (D := (dC, dI)) (ci := 12) (v := .int (b0 7)) (C := RX12) (T := TX12) (N := 67) hx hb hts zn_X12_own_X12 hown hK hP 0 rfl rfl 7 (of_decide_eq_true rfl) (hts (.fieldLink RX12 32 "ShortEnoughModel" "begun" "I") zw_X12_own_892) (fun _ h9 => h9) rfl dX12_own_41 ?_
          refine lv_iload_n hx hb dX12_own_44 rfl (lv_at hl 0 rfl) ?_
          refine lv_iadd hx hb dX12_own_45 ?_
          obtain ⟨h_15, hfn⟩ := zg_s hfn
          refine va_iald hx hb hK hP 2 1 rfl rfl h_15 dX12_own_46 ?_
          refine lv_bipush (v := 96) hx hb dX12_own_47 zcb_96 ?_
          refine lv_isub hx hb dX12_own_49 ?_
          refine lv_aload_n hx hb dX12_own_50 rfl (lv_at hl 3 rfl) ?_
          refine va_get (D := (dC, dI)) (ci := 12) (v := .ref (a0 10)) (C := RX12) (T := TX12) (N := 67) hx hb hts zn_X12_own_X12 hown hK hP 0 rfl rfl 10 (of_decide_eq_true rfl) (hts (.fieldLink RX12 41 "ShortEnoughModel" "ownLetters" "[I") zw_X12_own_891) (fun _ h9 => h9) rfl dX12_own_51 ?_
          refine lv_iload_n hx hb dX12_own_54 rfl (lv_at hl 2 rfl) ?_
          refine lv_iload_n hx hb dX12_own_55 rfl (lv_at hl 0 rfl) ?_
          refine lv_iadd hx hb dX12_own_56 ?_
          refine va_iald hx hb hK hP 1 0 rfl rfl h_4 dX12_own_57 ?_
          refine lv_icmp_ne (tgt := 67) hx hb dX12_own_58 (of_decide_eq_true rfl) (fun c_16 => ?_) (fun c_16 => ?_)
          · have hfn := (if_neg c_16).symm.trans hfn
            exact jp_5 () H locs ls hfn hP hD hS (lv_sub hl [0, 1, 2, 3] rfl)
          have hfn := (if_pos c_16).symm.trans hfn
          refine lv_iinc (v := (s_3 + 1)) (lv' := [(3, .int (s_3 + 1)), (2, .int s_1.2), (1, .int s_1.1), (0, .ref h0)]) hx hb dX12_own_61 hl (k := 0) rfl rfl (of_decide_eq_true rfl) rfl (fun ls hl => ?_)
          refine lv_goto (tgt := 12) hx hb dX12_own_64 (of_decide_eq_true rfl) ?_
          exact ih_3 (s_3 + 1) H locs ls hfn hP hD hS (lv_sub hl [0, 1, 2, 3] rfl)
      exact lp_3 _ 0 H locs ls hfn hP hD hS (lv_sub hl [0, 1, 2, 3] rfl)
  exact lp_1 _ (0, 0) s.heap [] ls hfn hP hD hS (lv_sub hl [0, 1, 2] rfl)
theorem zn_X12_word_X12 : ∀ w ∈ wsX120, w ∈ wsX12_word := fun _ h => List.mem_cons_of_mem _ (List.mem_append_right _ h)
theorem zw_X12_word_896 : Cond.fieldLink RX12 29 "ShortEnoughModel" "at" "I" ∈ wsX12_word := List.mem_of_getElem? (i := 1) (by decide +kernel)
theorem zw_X12_word_897 : Cond.fieldLink RX12 32 "ShortEnoughModel" "begun" "I" ∈ wsX12_word := List.mem_of_getElem? (i := 2) (by decide +kernel)
set_option maxHeartbeats 4000000 in
set_option maxRecDepth 100000 in
theorem zf_X12_word (l : Launch) (dC : Nat → ClassId) (dI : Nat → Nat → Nat) (h0 : Nat) (a0 : Nat → Nat) (b0 : Nat → Int32) (c0 : Nat → Int64) (k1 : Nat) (f1 : Nat → Int32) (o : Int32 × Int32 × Int32 × Int32) (hfn : fn_X12_word (b0 5) (b0 6) (b0 7) (b0 8) (b0 9) f1 = some o) (sz : Nat) : zMv l yX12_word wsX12_word ({ frames := 2, cells := 0, slots := 0, locals := 42 }) (dC, dI) vwCl [.ref h0] [(h0, .inr (12, zO a0 b0 c0)), zVi (a0 0) k1 1200 f1] [(k1, .int)] (fun _ => True) [(h0, .inr (12, zO a0 (zI (zI (zI (zI b0 6 o.1) 7 o.2.1) 8 o.2.2.1) 9 o.2.2.2) c0)), zVi (a0 0) k1 1200 f1] [(k1, .int)] sz := by
  refine zgov (cc := cX12_word) (maxL := 1) (ret := none) (C0 := RX12) (lv0 := [(0, .ref h0)]) zpl_X12 rfl rfl rfl (Nat.le_of_ble_eq_true rfl) ?_
  intro p e s m below meth c A ls Q hx hb hr hts hown hlocks hml hP hK hD hA hS hl hQ
  unfold fn_X12_word at hfn
  refine lv_aload_n hx hb dX12_word_0 rfl (lv_at hl 0 rfl) ?_
  obtain ⟨o_1, hqo_1, hfn⟩ := zb_s hfn
  refine zcVb (ci := 12) (rest := []) (pc' := 4) (ws' := [(h0, .inr (12, zO a0 b0 c0)), zVi (a0 0) k1 1200 f1]) hP hK hD hS hA ⟨hx, hb, hml, hown, hts⟩ (zf_X12_goesWell l dC dI h0 a0 b0 c0 o_1 hqo_1 s.heap.size) (cwV 0 hts gX12_word_X12_goesWell rfl rfl rfl zhd_X12_goesWell ⟨Nat.le_of_ble_eq_true rfl, Nat.le_of_ble_eq_true rfl⟩) [0] rfl (of_decide_eq_true rfl) [] rfl rfl rfl rfl hl.1 rfl (Nat.le_of_ble_eq_true rfl) dX12_word_1 ⟨Nat.le_of_ble_eq_true rfl, Nat.le_of_ble_eq_true rfl⟩ [some 0] (of_decide_eq_true rfl) (of_decide_eq_true rfl) rfl rfl rfl (fun H locs hw_4n hP hD hS => ?_)
  refine lv_if_ne (tgt := 8) hx hb dX12_word_4 (of_decide_eq_true rfl) (fun c_5 => ?_) (fun c_5 => ?_)
  · have hfn := (if_neg c_5).symm.trans hfn
    refine lv_aload_n hx hb dX12_word_8 rfl (lv_at hl 0 rfl) ?_
    obtain ⟨o_6, hqo_6, hfn⟩ := zb_s hfn
    refine zcVi (ci := 12) (rest := []) (pc' := 12) (ws' := [(h0, .inr (12, zO a0 (zI b0 6 o_6.2) c0)), zVi (a0 0) k1 1200 f1]) hP hK hD hS hA ⟨hx, hb, hml, hown, hts⟩ (zf_X12_here l dC dI h0 a0 b0 c0 k1 f1 o_6 hqo_6 H.size) (cwV 0 hts gX12_word_X12_here rfl rfl rfl zhd_X12_here ⟨Nat.le_of_ble_eq_true rfl, Nat.le_of_ble_eq_true rfl⟩) [0, 1] rfl (of_decide_eq_true rfl) [0] rfl rfl rfl rfl hl.1 rfl (Nat.le_of_ble_eq_true rfl) dX12_word_9 ⟨Nat.le_of_ble_eq_true rfl, Nat.le_of_ble_eq_true rfl⟩ [some 0, some 1] (of_decide_eq_true rfl) (of_decide_eq_true rfl) rfl rfl rfl (fun H locs hP hD hS => ?_)
    refine lv_pop hx hb dX12_word_12 rfl ?_
    refine lv_aload_n hx hb dX12_word_13 rfl (lv_at hl 0 rfl) ?_
    refine lv_aload_n hx hb dX12_word_14 rfl (lv_at hl 0 rfl) ?_
    refine va_get (D := (dC, dI)) (ci := 12) (v := .int o_6.2) (C := RX12) (T := TX12) (N := 67) hx hb hts zn_X12_word_X12 hown hK hP 0 rfl rfl 6 (of_decide_eq_true rfl) (hts (.fieldLink RX12 29 "ShortEnoughModel" "at" "I") zw_X12_word_896) (fun _ h9 => h9) rfl dX12_word_15 ?_
    refine va_put (D := (dC, dI)) (ci := 12) (v := .int o_6.2) (ty := .int) (C := RX12) (T := TX12) (N := 67) hx hb hts zn_X12_word_X12 tyX12 tyX12_ok nmX12 hown hK hP hD hS 0 rfl rfl 7 (of_decide_eq_true rfl) (hts (.fieldLink RX12 32 "ShortEnoughModel" "begun" "I") zw_X12_word_897) (fun _ h9 => h9) rfl (tyX12_ok 7 (of_decide_eq_true rfl)) rfl rfl (Nat.le_of_ble_eq_true rfl) dX12_word_18 (fun H locs hP hD hS => ?_)
    have hP : va_P (dC, dI) vwCl [(h0, .inr (12, zO a0 (zI (zI b0 6 o_6.2) 7 o_6.2) c0)), zVi (a0 0) k1 1200 f1] H := hP
    have hD := zDW hD hP rfl
    refine lv_aload_n hx hb dX12_word_21 rfl (lv_at hl 0 rfl) ?_
    refine lv_aload_n hx hb dX12_word_22 rfl (lv_at hl 0 rfl) ?_
    refine va_get (D := (dC, dI)) (ci := 12) (v := .int o_6.2) (C := RX12) (T := TX12) (N := 67) hx hb hts zn_X12_word_X12 hown hK hP 0 rfl rfl 6 (of_decide_eq_true rfl) (hts (.fieldLink RX12 29 "ShortEnoughModel" "at" "I") zw_X12_word_896) (fun _ h9 => h9) rfl dX12_word_23 ?_
    obtain ⟨o_10, hqo_10, hfn⟩ := zb_s hfn
    refine zcVb (ci := 12) (rest := []) (pc' := 29) (ws' := [(h0, .inr (12, zO a0 (zI (zI b0 6 o_6.2) 7 o_6.2) c0)), zVi (a0 0) k1 1200 f1]) hP hK hD hS hA ⟨hx, hb, hml, hown, hts⟩ (zf_X12_isSmall l dC dI h0 o_6.2 a0 (zI (zI b0 6 o_6.2) 7 o_6.2) c0 k1 f1 o_10 hqo_10 H.size) (cwV 1 hts gX12_word_X12_isSmall rfl rfl rfl zhd_X12_isSmall ⟨Nat.le_of_ble_eq_true rfl, Nat.le_of_ble_eq_true rfl⟩) [0, 1] rfl (of_decide_eq_true rfl) [0] rfl rfl rfl rfl hl.1 rfl (Nat.le_of_ble_eq_true rfl) dX12_word_26 ⟨Nat.le_of_ble_eq_true rfl, Nat.le_of_ble_eq_true rfl⟩ [some 0, some 1] (of_decide_eq_true rfl) (of_decide_eq_true rfl) rfl rfl rfl (fun H locs hw_13n hP hD hS => ?_)
    refine lv_if_eq (tgt := 58) hx hb dX12_word_29 (of_decide_eq_true rfl) (fun c_14 => ?_) (fun c_14 => ?_)
    · have hfn := (if_pos c_14).symm.trans hfn
      refine lv_aload_n hx hb dX12_word_58 rfl (lv_at hl 0 rfl) ?_
      refine lv_iconst (v := 1) hx hb dX12_word_59 zci_1 ?_
      refine lv_aload_n hx hb dX12_word_60 rfl (lv_at hl 0 rfl) ?_
      refine va_get (D := (dC, dI)) (ci := 12) (v := .int o_6.2) (C := RX12) (T := TX12) (N := 67) hx hb hts zn_X12_word_X12 hown hK hP 0 rfl rfl 6 (of_decide_eq_true rfl) (hts (.fieldLink RX12 29 "ShortEnoughModel" "at" "I") zw_X12_word_896) (fun _ h9 => h9) rfl dX12_word_61 ?_
      obtain ⟨o_15, hqo_15, hfn⟩ := zb_s hfn
      refine zcVv (ci := 12) (rest := []) (pc' := 67) (ws' := [(h0, .inr (12, zO a0 (zI (zI (zI (zI b0 6 o_6.2) 7 o_6.2) 8 o_15.1) 9 o_15.2) c0)), zVi (a0 0) k1 1200 f1]) hP hK hD hS hA ⟨hx, hb, hml, hown, hts⟩ (zf_X12_faults l dC dI h0 1 o_6.2 a0 (zI (zI b0 6 o_6.2) 7 o_6.2) c0 o_15 hqo_15 H.size) (cwV 2 hts gX12_word_X12_faults rfl rfl rfl zhd_X12_faults ⟨Nat.le_of_ble_eq_true rfl, Nat.le_of_ble_eq_true rfl⟩) [0] rfl (of_decide_eq_true rfl) [] rfl rfl rfl rfl hl.1 rfl (Nat.le_of_ble_eq_true rfl) dX12_word_64 ⟨Nat.le_of_ble_eq_true rfl, Nat.le_of_ble_eq_true rfl⟩ [some 0] (of_decide_eq_true rfl) (of_decide_eq_true rfl) rfl rfl rfl (fun H locs hP hD hS => ?_)
      have ho := Option.some.inj hfn
      subst ho
      exact zrv hx hb hr hK hP hD hS hQ trivial hlocks dX12_word_67
    have hfn := (if_neg c_14).symm.trans hfn
    refine lv_aload_n hx hb dX12_word_32 rfl (lv_at hl 0 rfl) ?_
    refine lv_aload_n hx hb dX12_word_33 rfl (lv_at hl 0 rfl) ?_
    refine va_get (D := (dC, dI)) (ci := 12) (v := .int o_6.2) (C := RX12) (T := TX12) (N := 67) hx hb hts zn_X12_word_X12 hown hK hP 0 rfl rfl 6 (of_decide_eq_true rfl) (hts (.fieldLink RX12 29 "ShortEnoughModel" "at" "I") zw_X12_word_896) (fun _ h9 => h9) rfl dX12_word_34 ?_
    refine lv_iconst (v := 1) hx hb dX12_word_37 zci_1 ?_
    refine lv_isub hx hb dX12_word_38 ?_
    obtain ⟨o_19, hqo_19, hfn⟩ := zb_s hfn
    refine zcVb (ci := 12) (rest := []) (pc' := 42) (ws' := [(h0, .inr (12, zO a0 (zI (zI b0 6 o_6.2) 7 o_6.2) c0)), zVi (a0 0) k1 1200 f1]) hP hK hD hS hA ⟨hx, hb, hml, hown, hts⟩ (zf_X12_isSmall l dC dI h0 (o_6.2 - 1) a0 (zI (zI b0 6 o_6.2) 7 o_6.2) c0 k1 f1 o_19 hqo_19 H.size) (cwV 1 hts gX12_word_X12_isSmall rfl rfl rfl zhd_X12_isSmall ⟨Nat.le_of_ble_eq_true rfl, Nat.le_of_ble_eq_true rfl⟩) [0, 1] rfl (of_decide_eq_true rfl) [0] rfl rfl rfl rfl hl.1 rfl (Nat.le_of_ble_eq_true rfl) dX12_word_39 ⟨Nat.le_of_ble_eq_true rfl, Nat.le_of_ble_eq_true rfl⟩ [some 0, some 1] (of_decide_eq_true rfl) (of_decide_eq_true rfl) rfl rfl rfl (fun H locs hw_22n hP hD hS => ?_)
    refine lv_if_ne (tgt := 58) hx hb dX12_word_42 (of_decide_eq_true rfl) (fun c_23 => ?_) (fun c_23 => ?_)
    · have hfn := (if_neg c_23).symm.trans hfn
      refine lv_aload_n hx hb dX12_word_58 rfl (lv_at hl 0 rfl) ?_
      refine lv_iconst (v := 1) hx hb dX12_word_59 zci_1 ?_
      refine lv_aload_n hx hb dX12_word_60 rfl (lv_at hl 0 rfl) ?_
      refine va_get (D := (dC, dI)) (ci := 12) (v := .int o_6.2) (C := RX12) (T := TX12) (N := 67) hx hb hts zn_X12_word_X12 hown hK hP 0 rfl rfl 6 (of_decide_eq_true rfl) (hts (.fieldLink RX12 29 "ShortEnoughModel" "at" "I") zw_X12_word_896) (fun _ h9 => h9) rfl dX12_word_61 ?_
      obtain ⟨o_24, hqo_24, hfn⟩ := zb_s hfn
      refine zcVv (ci := 12) (rest := []) (pc' := 67) (ws' := [(h0, .inr (12, zO a0 (zI (zI (zI (zI b0 6 o_6.2) 7 o_6.2) 8 o_24.1) 9 o_24.2) c0)), zVi (a0 0) k1 1200 f1]) hP hK hD hS hA ⟨hx, hb, hml, hown, hts⟩ (zf_X12_faults l dC dI h0 1 o_6.2 a0 (zI (zI b0 6 o_6.2) 7 o_6.2) c0 o_24 hqo_24 H.size) (cwV 2 hts gX12_word_X12_faults rfl rfl rfl zhd_X12_faults ⟨Nat.le_of_ble_eq_true rfl, Nat.le_of_ble_eq_true rfl⟩) [0] rfl (of_decide_eq_true rfl) [] rfl rfl rfl rfl hl.1 rfl (Nat.le_of_ble_eq_true rfl) dX12_word_64 ⟨Nat.le_of_ble_eq_true rfl, Nat.le_of_ble_eq_true rfl⟩ [some 0] (of_decide_eq_true rfl) (of_decide_eq_true rfl) rfl rfl rfl (fun H locs hP hD hS => ?_)
      have ho := Option.some.inj hfn
      subst ho
      exact zrv hx hb hr hK hP hD hS hQ trivial hlocks dX12_word_67
    have hfn := (if_pos c_23).symm.trans hfn
    refine lv_aload_n hx hb dX12_word_45 rfl (lv_at hl 0 rfl) ?_
    refine lv_aload_n hx hb dX12_word_46 rfl (lv_at hl 0 rfl) ?_
    refine va_get (D := (dC, dI)) (ci := 12) (v := .int o_6.2) (C := RX12) (T := TX12) (N := 67) hx hb hts zn_X12_word_X12 hown hK hP 0 rfl rfl 6 (of_decide_eq_true rfl) (hts (.fieldLink RX12 29 "ShortEnoughModel" "at" "I") zw_X12_word_896) (fun _ h9 => h9) rfl dX12_word_47 ?_
    refine lv_iconst (v := 1) hx hb dX12_word_50 zci_1 ?_
    refine lv_isub hx hb dX12_word_51 ?_
    obtain ⟨o_28, hqo_28, hfn⟩ := zb_s hfn
    refine zcVb (ci := 12) (rest := []) (pc' := 55) (ws' := [(h0, .inr (12, zO a0 (zI (zI b0 6 o_6.2) 7 o_6.2) c0)), zVi (a0 0) k1 1200 f1]) hP hK hD hS hA ⟨hx, hb, hml, hown, hts⟩ (zf_X12_isDigit l dC dI h0 (o_6.2 - 1) a0 (zI (zI b0 6 o_6.2) 7 o_6.2) c0 k1 f1 o_28 hqo_28 H.size) (cwV 1 hts gX12_word_X12_isDigit rfl rfl rfl zhd_X12_isDigit ⟨Nat.le_of_ble_eq_true rfl, Nat.le_of_ble_eq_true rfl⟩) [0, 1] rfl (of_decide_eq_true rfl) [0] rfl rfl rfl rfl hl.1 rfl (Nat.le_of_ble_eq_true rfl) dX12_word_52 ⟨Nat.le_of_ble_eq_true rfl, Nat.le_of_ble_eq_true rfl⟩ [some 0, some 1] (of_decide_eq_true rfl) (of_decide_eq_true rfl) rfl rfl rfl (fun H locs hw_31n hP hD hS => ?_)
    refine lv_if_eq (tgt := 68) hx hb dX12_word_55 (of_decide_eq_true rfl) (fun c_32 => ?_) (fun c_32 => ?_)
    · have hfn := (if_pos c_32).symm.trans hfn
      obtain ⟨bd_33, ebd_33, hfn⟩ := zl_g hfn
      have lp_33 : ∀ (n : Nat) (s_33 : Int32) (H : Heap) (locs : List Loc) (ls : Array Slot), zl bd_33 n s_33 = some o → va_P (dC, dI) vwCl [(h0, .inr (12, zO a0 (zI (zI b0 6 s_33) 7 o_6.2) c0)), zVi (a0 0) k1 1200 f1] H → va_D A [(h0, .inr (12, zO a0 (zI (zI b0 6 s_33) 7 o_6.2) c0)), zVi (a0 0) k1 1200 f1] → va_S A s.heap H locs → lv_has ls 1 [(0, .ref h0)] → W p l e (headSpec wsX12_word ({ frames := 2, cells := 0, slots := 0, locals := 42 })).room s m ([.ref h0] : List Value).toArray below meth c H locs 0 0 Q (F0 m 68 ls []) := by
        intro n
        induction n with
        | zero => exact fun _ _ _ _ hfn => (zl_0 hfn).elim
        | succ n ih_33 =>
          intro s_33 H locs ls hfn hP hD hS hl
          have hfn := zl_s ebd_33 hfn
          refine lv_aload_n hx hb dX12_word_68 rfl (lv_at hl 0 rfl) ?_
          refine lv_aload_n hx hb dX12_word_69 rfl (lv_at hl 0 rfl) ?_
          refine va_get (D := (dC, dI)) (ci := 12) (v := .int s_33) (C := RX12) (T := TX12) (N := 67) hx hb hts zn_X12_word_X12 hown hK hP 0 rfl rfl 6 (of_decide_eq_true rfl) (hts (.fieldLink RX12 29 "ShortEnoughModel" "at" "I") zw_X12_word_896) (fun _ h9 => h9) rfl dX12_word_70 ?_
          obtain ⟨o_34, hqo_34, hfn⟩ := zb_s hfn
          refine zcVb (ci := 12) (rest := []) (pc' := 76) (ws' := [(h0, .inr (12, zO a0 (zI (zI b0 6 s_33) 7 o_6.2) c0)), zVi (a0 0) k1 1200 f1]) hP hK hD hS hA ⟨hx, hb, hml, hown, hts⟩ (zf_X12_isSmall l dC dI h0 s_33 a0 (zI (zI b0 6 s_33) 7 o_6.2) c0 k1 f1 o_34 hqo_34 H.size) (cwV 1 hts gX12_word_X12_isSmall rfl rfl rfl zhd_X12_isSmall ⟨Nat.le_of_ble_eq_true rfl, Nat.le_of_ble_eq_true rfl⟩) [0, 1] rfl (of_decide_eq_true rfl) [0] rfl rfl rfl rfl hl.1 rfl (Nat.le_of_ble_eq_true rfl) dX12_word_73 ⟨Nat.le_of_ble_eq_true rfl, Nat.le_of_ble_eq_true rfl⟩ [some 0, some 1] (of_decide_eq_true rfl) (of_decide_eq_true rfl) rfl rfl rfl (fun H locs hw_37n hP hD hS => ?_)
          refine lv_if_eq (tgt := 92) hx hb dX12_word_76 (of_decide_eq_true rfl) (fun c_38 => ?_) (fun c_38 => ?_)
          · have hfn := (if_pos c_38).symm.trans hfn
            have ho := Option.some.inj hfn
            subst ho
            exact zrv hx hb hr hK hP hD hS hQ trivial hlocks dX12_word_92
          have hfn := (if_neg c_38).symm.trans hfn
          refine lv_aload_n hx hb dX12_word_79 rfl (lv_at hl 0 rfl) ?_
          refine lv_dup hx hb dX12_word_80 rfl ?_
          refine va_get (D := (dC, dI)) (ci := 12) (v := .int s_33) (C := RX12) (T := TX12) (N := 67) hx hb hts zn_X12_word_X12 hown hK hP 0 rfl rfl 6 (of_decide_eq_true rfl) (hts (.fieldLink RX12 29 "ShortEnoughModel" "at" "I") zw_X12_word_896) (fun _ h9 => h9) rfl dX12_word_81 ?_
          refine lv_iconst (v := 1) hx hb dX12_word_84 zci_1 ?_
          refine lv_iadd hx hb dX12_word_85 ?_
          refine va_put (D := (dC, dI)) (ci := 12) (v := .int (s_33 + 1)) (ty := .int) (C := RX12) (T := TX12) (N := 67) hx hb hts zn_X12_word_X12 tyX12 tyX12_ok nmX12 hown hK hP hD hS 0 rfl rfl 6 (of_decide_eq_true rfl) (hts (.fieldLink RX12 29 "ShortEnoughModel" "at" "I") zw_X12_word_896) (fun _ h9 => h9) rfl (tyX12_ok 6 (of_decide_eq_true rfl)) rfl rfl (Nat.le_of_ble_eq_true rfl) dX12_word_86 (fun H locs hP hD hS => ?_)
          have hP : va_P (dC, dI) vwCl [(h0, .inr (12, zO a0 (zI (zI b0 6 (s_33 + 1)) 7 o_6.2) c0)), zVi (a0 0) k1 1200 f1] H := hP
          have hD := zDW hD hP rfl
          refine lv_goto (tgt := 68) hx hb dX12_word_89 (of_decide_eq_true rfl) ?_
          exact ih_33 (s_33 + 1) H locs ls hfn hP hD hS (lv_sub hl [0] rfl)
      exact lp_33 _ o_6.2 H locs ls hfn hP hD hS (lv_sub hl [0] rfl)
    have hfn := (if_neg c_32).symm.trans hfn
    refine lv_aload_n hx hb dX12_word_58 rfl (lv_at hl 0 rfl) ?_
    refine lv_iconst (v := 1) hx hb dX12_word_59 zci_1 ?_
    refine lv_aload_n hx hb dX12_word_60 rfl (lv_at hl 0 rfl) ?_
    refine va_get (D := (dC, dI)) (ci := 12) (v := .int o_6.2) (C := RX12) (T := TX12) (N := 67) hx hb hts zn_X12_word_X12 hown hK hP 0 rfl rfl 6 (of_decide_eq_true rfl) (hts (.fieldLink RX12 29 "ShortEnoughModel" "at" "I") zw_X12_word_896) (fun _ h9 => h9) rfl dX12_word_61 ?_
    obtain ⟨o_39, hqo_39, hfn⟩ := zb_s hfn
    refine zcVv (ci := 12) (rest := []) (pc' := 67) (ws' := [(h0, .inr (12, zO a0 (zI (zI (zI (zI b0 6 o_6.2) 7 o_6.2) 8 o_39.1) 9 o_39.2) c0)), zVi (a0 0) k1 1200 f1]) hP hK hD hS hA ⟨hx, hb, hml, hown, hts⟩ (zf_X12_faults l dC dI h0 1 o_6.2 a0 (zI (zI b0 6 o_6.2) 7 o_6.2) c0 o_39 hqo_39 H.size) (cwV 2 hts gX12_word_X12_faults rfl rfl rfl zhd_X12_faults ⟨Nat.le_of_ble_eq_true rfl, Nat.le_of_ble_eq_true rfl⟩) [0] rfl (of_decide_eq_true rfl) [] rfl rfl rfl rfl hl.1 rfl (Nat.le_of_ble_eq_true rfl) dX12_word_64 ⟨Nat.le_of_ble_eq_true rfl, Nat.le_of_ble_eq_true rfl⟩ [some 0] (of_decide_eq_true rfl) (of_decide_eq_true rfl) rfl rfl rfl (fun H locs hP hD hS => ?_)
    have ho := Option.some.inj hfn
    subst ho
    exact zrv hx hb hr hK hP hD hS hQ trivial hlocks dX12_word_67
  have hfn := (if_pos c_5).symm.trans hfn
  have ho := Option.some.inj hfn
  subst ho
  exact zrv hx hb hr hK hP hD hS hQ trivial hlocks dX12_word_7
theorem zn_X12_must_X12 : ∀ w ∈ wsX120, w ∈ wsX12_must := fun _ h => List.mem_cons_of_mem _ (List.mem_append_right _ h)
theorem zw_X12_must_899 : Cond.fieldLink RX12 32 "ShortEnoughModel" "begun" "I" ∈ wsX12_must := List.mem_of_getElem? (i := 1) (by decide +kernel)
set_option maxHeartbeats 4000000 in
set_option maxRecDepth 100000 in
theorem zf_X12_must (l : Launch) (dC : Nat → ClassId) (dI : Nat → Nat → Nat) (h0 : Nat) (p1 : Int32) (a0 : Nat → Nat) (b0 : Nat → Int32) (c0 : Nat → Int64) (k1 : Nat) (f1 : Nat → Int32) (k2 : Nat) (f2 : Nat → Int32) (o : Int32 × Int32 × Int32 × Int32) (hfn : fn_X12_must p1 (b0 5) (b0 6) (b0 7) (b0 8) (b0 9) f1 f2 = some o) (sz : Nat) : zMv l yX12_must wsX12_must ({ frames := 3, cells := 0, slots := 0, locals := 62 }) (dC, dI) vwCl [.ref h0, .int p1] [(h0, .inr (12, zO a0 b0 c0)), zVi (a0 0) k1 1200 f1, zVi (a0 10) k2 71 f2] [(k1, .int), (k2, .int)] (fun _ => True) [(h0, .inr (12, zO a0 (zI (zI (zI (zI b0 6 o.1) 7 o.2.1) 8 o.2.2.1) 9 o.2.2.2) c0)), zVi (a0 0) k1 1200 f1, zVi (a0 10) k2 71 f2] [(k1, .int), (k2, .int)] sz := by
  refine zgov (cc := cX12_must) (maxL := 2) (ret := none) (C0 := RX12) (lv0 := [(0, .ref h0), (1, .int p1)]) zpl_X12 rfl rfl rfl (Nat.le_of_ble_eq_true rfl) ?_
  intro p e s m below meth c A ls Q hx hb hr hts hown hlocks hml hP hK hD hA hS hl hQ
  unfold fn_X12_must at hfn
  refine lv_aload_n hx hb dX12_must_0 rfl (lv_at hl 0 rfl) ?_
  obtain ⟨o_1, hqo_1, hfn⟩ := zb_s hfn
  refine zcVv (ci := 12) (rest := []) (pc' := 4) (ws' := [(h0, .inr (12, zO a0 (zI (zI (zI (zI b0 6 o_1.1) 7 o_1.2.1) 8 o_1.2.2.1) 9 o_1.2.2.2) c0)), zVi (a0 0) k1 1200 f1, zVi (a0 10) k2 71 f2]) hP hK hD hS hA ⟨hx, hb, hml, hown, hts⟩ (zf_X12_word l dC dI h0 a0 b0 c0 k1 f1 o_1 hqo_1 s.heap.size) (cwV 0 hts gX12_must_X12_word rfl rfl rfl zhd_X12_word ⟨Nat.le_of_ble_eq_true rfl, Nat.le_of_ble_eq_true rfl⟩) [0, 1] rfl (of_decide_eq_true rfl) [0] rfl rfl rfl rfl hl.1 rfl (Nat.le_of_ble_eq_true rfl) dX12_must_1 ⟨Nat.le_of_ble_eq_true rfl, Nat.le_of_ble_eq_true rfl⟩ [some 0, some 1] (of_decide_eq_true rfl) (of_decide_eq_true rfl) rfl rfl rfl (fun H locs hP hD hS => ?_)
  refine lv_aload_n hx hb dX12_must_4 rfl (lv_at hl 0 rfl) ?_
  obtain ⟨o_5, hqo_5, hfn⟩ := zb_s hfn
  refine zcVb (ci := 12) (rest := []) (pc' := 8) (ws' := [(h0, .inr (12, zO a0 (zI (zI (zI (zI b0 6 o_1.1) 7 o_1.2.1) 8 o_1.2.2.1) 9 o_1.2.2.2) c0)), zVi (a0 0) k1 1200 f1, zVi (a0 10) k2 71 f2]) hP hK hD hS hA ⟨hx, hb, hml, hown, hts⟩ (zf_X12_goesWell l dC dI h0 a0 (zI (zI (zI (zI b0 6 o_1.1) 7 o_1.2.1) 8 o_1.2.2.1) 9 o_1.2.2.2) c0 o_5 hqo_5 H.size) (cwV 0 hts gX12_must_X12_goesWell rfl rfl rfl zhd_X12_goesWell ⟨Nat.le_of_ble_eq_true rfl, Nat.le_of_ble_eq_true rfl⟩) [0] rfl (of_decide_eq_true rfl) [] rfl rfl rfl rfl hl.1 rfl (Nat.le_of_ble_eq_true rfl) dX12_must_5 ⟨Nat.le_of_ble_eq_true rfl, Nat.le_of_ble_eq_true rfl⟩ [some 0] (of_decide_eq_true rfl) (of_decide_eq_true rfl) rfl rfl rfl (fun H locs hw_8n hP hD hS => ?_)
  refine lv_if_eq (tgt := 28) hx hb dX12_must_8 (of_decide_eq_true rfl) (fun c_9 => ?_) (fun c_9 => ?_)
  · have hfn := (if_pos c_9).symm.trans hfn
    have ho := Option.some.inj hfn
    subst ho
    exact zrv hx hb hr hK hP hD hS hQ trivial hlocks dX12_must_28
  have hfn := (if_neg c_9).symm.trans hfn
  refine lv_aload_n hx hb dX12_must_11 rfl (lv_at hl 0 rfl) ?_
  obtain ⟨o_10, hqo_10, hfn⟩ := zb_s hfn
  refine zcVi (ci := 12) (rest := []) (pc' := 15) (ws' := [(h0, .inr (12, zO a0 (zI (zI (zI (zI b0 6 o_1.1) 7 o_1.2.1) 8 o_1.2.2.1) 9 o_1.2.2.2) c0)), zVi (a0 0) k1 1200 f1, zVi (a0 10) k2 71 f2]) hP hK hD hS hA ⟨hx, hb, hml, hown, hts⟩ (zf_X12_own l dC dI h0 a0 (zI (zI (zI (zI b0 6 o_1.1) 7 o_1.2.1) 8 o_1.2.2.1) 9 o_1.2.2.2) c0 k2 f2 k1 f1 o_10 hqo_10 H.size) (cwV 0 hts gX12_must_X12_own rfl rfl rfl zhd_X12_own ⟨Nat.le_of_ble_eq_true rfl, Nat.le_of_ble_eq_true rfl⟩) [0, 2, 1] rfl (of_decide_eq_true rfl) [1, 0] rfl rfl rfl rfl hl.1 rfl (Nat.le_of_ble_eq_true rfl) dX12_must_12 ⟨Nat.le_of_ble_eq_true rfl, Nat.le_of_ble_eq_true rfl⟩ [some 0, some 2, some 1] (of_decide_eq_true rfl) (of_decide_eq_true rfl) rfl rfl rfl (fun H locs hP hD hS => ?_)
  refine lv_iload_n hx hb dX12_must_15 rfl (lv_at hl 1 rfl) ?_
  refine lv_icmp_eq (tgt := 28) hx hb dX12_must_16 (of_decide_eq_true rfl) (fun c_14 => ?_) (fun c_14 => ?_)
  · have hfn := (if_pos c_14).symm.trans hfn
    have ho := Option.some.inj hfn
    subst ho
    exact zrv hx hb hr hK hP hD hS hQ trivial hlocks dX12_must_28
  have hfn := (if_neg c_14).symm.trans hfn
  refine lv_aload_n hx hb dX12_must_19 rfl (lv_at hl 0 rfl) ?_
  refine lv_iconst (v := 1) hx hb dX12_must_20 zci_1 ?_
  refine lv_aload_n hx hb dX12_must_21 rfl (lv_at hl 0 rfl) ?_
  refine va_get (D := (dC, dI)) (ci := 12) (v := .int o_1.2.1) (C := RX12) (T := TX12) (N := 67) hx hb hts zn_X12_must_X12 hown hK hP 0 rfl rfl 7 (of_decide_eq_true rfl) (hts (.fieldLink RX12 32 "ShortEnoughModel" "begun" "I") zw_X12_must_899) (fun _ h9 => h9) rfl dX12_must_22 ?_
  obtain ⟨o_15, hqo_15, hfn⟩ := zb_s hfn
  refine zcVv (ci := 12) (rest := []) (pc' := 28) (ws' := [(h0, .inr (12, zO a0 (zI (zI (zI (zI b0 6 o_1.1) 7 o_1.2.1) 8 o_15.1) 9 o_15.2) c0)), zVi (a0 0) k1 1200 f1, zVi (a0 10) k2 71 f2]) hP hK hD hS hA ⟨hx, hb, hml, hown, hts⟩ (zf_X12_faults l dC dI h0 1 o_1.2.1 a0 (zI (zI (zI (zI b0 6 o_1.1) 7 o_1.2.1) 8 o_1.2.2.1) 9 o_1.2.2.2) c0 o_15 hqo_15 H.size) (cwV 2 hts gX12_must_X12_faults rfl rfl rfl zhd_X12_faults ⟨Nat.le_of_ble_eq_true rfl, Nat.le_of_ble_eq_true rfl⟩) [0] rfl (of_decide_eq_true rfl) [] rfl rfl rfl rfl hl.1 rfl (Nat.le_of_ble_eq_true rfl) dX12_must_25 ⟨Nat.le_of_ble_eq_true rfl, Nat.le_of_ble_eq_true rfl⟩ [some 0] (of_decide_eq_true rfl) (of_decide_eq_true rfl) rfl rfl rfl (fun H locs hP hD hS => ?_)
  have ho := Option.some.inj hfn
  subst ho
  exact zrv hx hb hr hK hP hD hS hQ trivial hlocks dX12_must_28
theorem zn_X12_name_X12 : ∀ w ∈ wsX120, w ∈ wsX12_name := fun _ h => List.mem_cons_of_mem _ (List.mem_append_right _ h)
theorem zw_X12_name_901 : Cond.fieldLink RX12 29 "ShortEnoughModel" "at" "I" ∈ wsX12_name := List.mem_of_getElem? (i := 1) (by decide +kernel)
theorem zw_X12_name_902 : Cond.fieldLink RX12 32 "ShortEnoughModel" "begun" "I" ∈ wsX12_name := List.mem_of_getElem? (i := 2) (by decide +kernel)
theorem zw_X12_name_903 : Cond.fieldLink RX12 7 "ShortEnoughModel" "tape" "[I" ∈ wsX12_name := List.mem_of_getElem? (i := 3) (by decide +kernel)
set_option maxHeartbeats 4000000 in
set_option maxRecDepth 100000 in
theorem zf_X12_name (l : Launch) (dC : Nat → ClassId) (dI : Nat → Nat → Nat) (h0 : Nat) (a0 : Nat → Nat) (b0 : Nat → Int32) (c0 : Nat → Int64) (k1 : Nat) (f1 : Nat → Int32) (k2 : Nat) (f2 : Nat → Int32) (o : Int32 × Int32 × Int32 × Int32 × Int32) (hfn : fn_X12_name (b0 5) (b0 6) (b0 7) (b0 8) (b0 9) f1 f2 = some o) (sz : Nat) : zMi l yX12_name wsX12_name ({ frames := 3, cells := 0, slots := 0, locals := 62 }) (dC, dI) vwCl [.ref h0] [(h0, .inr (12, zO a0 b0 c0)), zVi (a0 0) k1 1200 f1, zVi (a0 10) k2 71 f2] [(k1, .int), (k2, .int)] (fun r _ => r = o.1) [(h0, .inr (12, zO a0 (zI (zI (zI (zI b0 6 o.2.1) 7 o.2.2.1) 8 o.2.2.2.1) 9 o.2.2.2.2) c0)), zVi (a0 0) k1 1200 f1, zVi (a0 10) k2 71 f2] [(k1, .int), (k2, .int)] sz := by
  refine zgoi (cc := cX12_name) (maxL := 3) (ret := (some .int)) (C0 := RX12) (lv0 := [(0, .ref h0)]) zpl_X12 rfl rfl rfl (Nat.le_of_ble_eq_true rfl) ?_
  intro p e s m below meth c A ls Q hx hb hr hts hown hlocks hml hP hK hD hA hS hl hQ
  unfold fn_X12_name at hfn
  refine lv_aload_n hx hb dX12_name_0 rfl (lv_at hl 0 rfl) ?_
  obtain ⟨o_1, hqo_1, hfn⟩ := zb_s hfn
  refine zcVv (ci := 12) (rest := []) (pc' := 4) (ws' := [(h0, .inr (12, zO a0 (zI (zI (zI (zI b0 6 o_1.1) 7 o_1.2.1) 8 o_1.2.2.1) 9 o_1.2.2.2) c0)), zVi (a0 0) k1 1200 f1, zVi (a0 10) k2 71 f2]) hP hK hD hS hA ⟨hx, hb, hml, hown, hts⟩ (zf_X12_word l dC dI h0 a0 b0 c0 k1 f1 o_1 hqo_1 s.heap.size) (cwV 0 hts gX12_name_X12_word rfl rfl rfl zhd_X12_word ⟨Nat.le_of_ble_eq_true rfl, Nat.le_of_ble_eq_true rfl⟩) [0, 1] rfl (of_decide_eq_true rfl) [0] rfl rfl rfl rfl hl.1 rfl (Nat.le_of_ble_eq_true rfl) dX12_name_1 ⟨Nat.le_of_ble_eq_true rfl, Nat.le_of_ble_eq_true rfl⟩ [some 0, some 1] (of_decide_eq_true rfl) (of_decide_eq_true rfl) rfl rfl rfl (fun H locs hP hD hS => ?_)
  refine lv_aload_n hx hb dX12_name_4 rfl (lv_at hl 0 rfl) ?_
  obtain ⟨o_5, hqo_5, hfn⟩ := zb_s hfn
  refine zcVb (ci := 12) (rest := []) (pc' := 8) (ws' := [(h0, .inr (12, zO a0 (zI (zI (zI (zI b0 6 o_1.1) 7 o_1.2.1) 8 o_1.2.2.1) 9 o_1.2.2.2) c0)), zVi (a0 0) k1 1200 f1, zVi (a0 10) k2 71 f2]) hP hK hD hS hA ⟨hx, hb, hml, hown, hts⟩ (zf_X12_goesWell l dC dI h0 a0 (zI (zI (zI (zI b0 6 o_1.1) 7 o_1.2.1) 8 o_1.2.2.1) 9 o_1.2.2.2) c0 o_5 hqo_5 H.size) (cwV 0 hts gX12_name_X12_goesWell rfl rfl rfl zhd_X12_goesWell ⟨Nat.le_of_ble_eq_true rfl, Nat.le_of_ble_eq_true rfl⟩) [0] rfl (of_decide_eq_true rfl) [] rfl rfl rfl rfl hl.1 rfl (Nat.le_of_ble_eq_true rfl) dX12_name_5 ⟨Nat.le_of_ble_eq_true rfl, Nat.le_of_ble_eq_true rfl⟩ [some 0] (of_decide_eq_true rfl) (of_decide_eq_true rfl) rfl rfl rfl (fun H locs hw_8n hP hD hS => ?_)
  obtain ⟨j_9, ej_9, hfn⟩ := zj_g hfn
  have jp_9 : ∀ (s_9 : Int32 × Int32) (H : Heap) (locs : List Loc) (ls : Array Slot), j_9 s_9 = some o → va_P (dC, dI) vwCl [(h0, .inr (12, zO a0 (zI (zI (zI (zI b0 6 o_1.1) 7 o_1.2.1) 8 s_9.1) 9 s_9.2) c0)), zVi (a0 0) k1 1200 f1, zVi (a0 10) k2 71 f2] H → va_D A [(h0, .inr (12, zO a0 (zI (zI (zI (zI b0 6 o_1.1) 7 o_1.2.1) 8 s_9.1) 9 s_9.2) c0)), zVi (a0 0) k1 1200 f1, zVi (a0 10) k2 71 f2] → va_S A s.heap H locs → lv_has ls 3 [(0, .ref h0)] → W p l e (headSpec wsX12_name ({ frames := 3, cells := 0, slots := 0, locals := 62 })).room s m ([.ref h0] : List Value).toArray below meth c H locs 0 0 Q (F0 m 42 ls []) := by
    intro s_9 H locs ls hfn hP hD hS hl
    have hfn := zj_s ej_9 hfn
    refine lv_iconst (v := 0) hx hb dX12_name_42 zci_0 ?_
    refine lv_istore_n (lv' := [(1, .int 0), (0, .ref h0)]) hx hb dX12_name_43 rfl hl (of_decide_eq_true rfl) rfl (fun ls hl => ?_)
    refine lv_aload_n hx hb dX12_name_44 rfl (lv_at hl 1 rfl) ?_
    refine va_get (D := (dC, dI)) (ci := 12) (v := .int o_1.1) (C := RX12) (T := TX12) (N := 67) hx hb hts zn_X12_name_X12 hown hK hP 0 rfl rfl 6 (of_decide_eq_true rfl) (hts (.fieldLink RX12 29 "ShortEnoughModel" "at" "I") zw_X12_name_901) (fun _ h9 => h9) rfl dX12_name_45 ?_
    refine lv_iconst (v := 1) hx hb dX12_name_48 zci_1 ?_
    refine lv_isub hx hb dX12_name_49 ?_
    refine lv_istore_n (lv' := [(2, .int (o_1.1 - 1)), (1, .int 0), (0, .ref h0)]) hx hb dX12_name_50 rfl hl (of_decide_eq_true rfl) rfl (fun ls hl => ?_)
    obtain ⟨bd_10, ebd_10, hfn⟩ := zl_g hfn
    have lp_10 : ∀ (n : Nat) (s_10 : Int32 × Int32) (H : Heap) (locs : List Loc) (ls : Array Slot), zl bd_10 n s_10 = some o → va_P (dC, dI) vwCl [(h0, .inr (12, zO a0 (zI (zI (zI (zI b0 6 o_1.1) 7 o_1.2.1) 8 s_9.1) 9 s_9.2) c0)), zVi (a0 0) k1 1200 f1, zVi (a0 10) k2 71 f2] H → va_D A [(h0, .inr (12, zO a0 (zI (zI (zI (zI b0 6 o_1.1) 7 o_1.2.1) 8 s_9.1) 9 s_9.2) c0)), zVi (a0 0) k1 1200 f1, zVi (a0 10) k2 71 f2] → va_S A s.heap H locs → lv_has ls 3 [(2, .int s_10.2), (1, .int s_10.1), (0, .ref h0)] → W p l e (headSpec wsX12_name ({ frames := 3, cells := 0, slots := 0, locals := 62 })).room s m ([.ref h0] : List Value).toArray below meth c H locs 0 0 Q (F0 m 51 ls []) := by
      intro n
      induction n with
      | zero => exact fun _ _ _ _ hfn => (zl_0 hfn).elim
      | succ n ih_10 =>
        intro s_10 H locs ls hfn hP hD hS hl
        have hfn := zl_s ebd_10 hfn
        refine lv_iload_n hx hb dX12_name_51 rfl (lv_at hl 0 rfl) ?_
        refine lv_aload_n hx hb dX12_name_52 rfl (lv_at hl 2 rfl) ?_
        refine va_get (D := (dC, dI)) (ci := 12) (v := .int o_1.2.1) (C := RX12) (T := TX12) (N := 67) hx hb hts zn_X12_name_X12 hown hK hP 0 rfl rfl 7 (of_decide_eq_true rfl) (hts (.fieldLink RX12 32 "ShortEnoughModel" "begun" "I") zw_X12_name_902) (fun _ h9 => h9) rfl dX12_name_53 ?_
        refine lv_icmp_lt (tgt := 87) hx hb dX12_name_56 (of_decide_eq_true rfl) (fun c_11 => ?_) (fun c_11 => ?_)
        · have hfn := (if_pos c_11).symm.trans hfn
          refine lv_aload_n hx hb dX12_name_87 rfl (lv_at hl 2 rfl) ?_
          obtain ⟨o_12, hqo_12, hfn⟩ := zb_s hfn
          refine zcVb (ci := 12) (rest := []) (pc' := 91) (ws' := [(h0, .inr (12, zO a0 (zI (zI (zI (zI b0 6 o_1.1) 7 o_1.2.1) 8 s_9.1) 9 s_9.2) c0)), zVi (a0 0) k1 1200 f1, zVi (a0 10) k2 71 f2]) hP hK hD hS hA ⟨hx, hb, hml, hown, hts⟩ (zf_X12_goesWell l dC dI h0 a0 (zI (zI (zI (zI b0 6 o_1.1) 7 o_1.2.1) 8 s_9.1) 9 s_9.2) c0 o_12 hqo_12 H.size) (cwV 0 hts gX12_name_X12_goesWell rfl rfl rfl zhd_X12_goesWell ⟨Nat.le_of_ble_eq_true rfl, Nat.le_of_ble_eq_true rfl⟩) [0] rfl (of_decide_eq_true rfl) [] rfl rfl rfl rfl hl.1 rfl (Nat.le_of_ble_eq_true rfl) dX12_name_88 ⟨Nat.le_of_ble_eq_true rfl, Nat.le_of_ble_eq_true rfl⟩ [some 0] (of_decide_eq_true rfl) (of_decide_eq_true rfl) rfl rfl rfl (fun H locs hw_15n hP hD hS => ?_)
          refine lv_if_eq (tgt := 98) hx hb dX12_name_91 (of_decide_eq_true rfl) (fun c_16 => ?_) (fun c_16 => ?_)
          · have hfn := (if_pos c_16).symm.trans hfn
            refine lv_iconst (v := 0) hx hb dX12_name_98 zci_0 ?_
            have ho := Option.some.inj hfn
            subst ho
            exact zri hx hb hr hK hP hD hS hQ rfl hlocks dX12_name_99
          have hfn := (if_neg c_16).symm.trans hfn
          refine lv_iload_n hx hb dX12_name_94 rfl (lv_at hl 1 rfl) ?_
          refine lv_goto (tgt := 99) hx hb dX12_name_95 (of_decide_eq_true rfl) ?_
          have ho := Option.some.inj hfn
          subst ho
          exact zri hx hb hr hK hP hD hS hQ rfl hlocks dX12_name_99
        have hfn := (if_neg c_11).symm.trans hfn
        refine lv_aload_n hx hb dX12_name_59 rfl (lv_at hl 2 rfl) ?_
        obtain ⟨o_17, hqo_17, hfn⟩ := zb_s hfn
        refine zcVb (ci := 12) (rest := []) (pc' := 63) (ws' := [(h0, .inr (12, zO a0 (zI (zI (zI (zI b0 6 o_1.1) 7 o_1.2.1) 8 s_9.1) 9 s_9.2) c0)), zVi (a0 0) k1 1200 f1, zVi (a0 10) k2 71 f2]) hP hK hD hS hA ⟨hx, hb, hml, hown, hts⟩ (zf_X12_goesWell l dC dI h0 a0 (zI (zI (zI (zI b0 6 o_1.1) 7 o_1.2.1) 8 s_9.1) 9 s_9.2) c0 o_17 hqo_17 H.size) (cwV 0 hts gX12_name_X12_goesWell rfl rfl rfl zhd_X12_goesWell ⟨Nat.le_of_ble_eq_true rfl, Nat.le_of_ble_eq_true rfl⟩) [0] rfl (of_decide_eq_true rfl) [] rfl rfl rfl rfl hl.1 rfl (Nat.le_of_ble_eq_true rfl) dX12_name_60 ⟨Nat.le_of_ble_eq_true rfl, Nat.le_of_ble_eq_true rfl⟩ [some 0] (of_decide_eq_true rfl) (of_decide_eq_true rfl) rfl rfl rfl (fun H locs hw_20n hP hD hS => ?_)
        refine lv_if_eq (tgt := 87) hx hb dX12_name_63 (of_decide_eq_true rfl) (fun c_21 => ?_) (fun c_21 => ?_)
        · have hfn := (if_pos c_21).symm.trans hfn
          refine lv_aload_n hx hb dX12_name_87 rfl (lv_at hl 2 rfl) ?_
          obtain ⟨o_22, hqo_22, hfn⟩ := zb_s hfn
          refine zcVb (ci := 12) (rest := []) (pc' := 91) (ws' := [(h0, .inr (12, zO a0 (zI (zI (zI (zI b0 6 o_1.1) 7 o_1.2.1) 8 s_9.1) 9 s_9.2) c0)), zVi (a0 0) k1 1200 f1, zVi (a0 10) k2 71 f2]) hP hK hD hS hA ⟨hx, hb, hml, hown, hts⟩ (zf_X12_goesWell l dC dI h0 a0 (zI (zI (zI (zI b0 6 o_1.1) 7 o_1.2.1) 8 s_9.1) 9 s_9.2) c0 o_22 hqo_22 H.size) (cwV 0 hts gX12_name_X12_goesWell rfl rfl rfl zhd_X12_goesWell ⟨Nat.le_of_ble_eq_true rfl, Nat.le_of_ble_eq_true rfl⟩) [0] rfl (of_decide_eq_true rfl) [] rfl rfl rfl rfl hl.1 rfl (Nat.le_of_ble_eq_true rfl) dX12_name_88 ⟨Nat.le_of_ble_eq_true rfl, Nat.le_of_ble_eq_true rfl⟩ [some 0] (of_decide_eq_true rfl) (of_decide_eq_true rfl) rfl rfl rfl (fun H locs hw_25n hP hD hS => ?_)
          refine lv_if_eq (tgt := 98) hx hb dX12_name_91 (of_decide_eq_true rfl) (fun c_26 => ?_) (fun c_26 => ?_)
          · have hfn := (if_pos c_26).symm.trans hfn
            refine lv_iconst (v := 0) hx hb dX12_name_98 zci_0 ?_
            have ho := Option.some.inj hfn
            subst ho
            exact zri hx hb hr hK hP hD hS hQ rfl hlocks dX12_name_99
          have hfn := (if_neg c_26).symm.trans hfn
          refine lv_iload_n hx hb dX12_name_94 rfl (lv_at hl 1 rfl) ?_
          refine lv_goto (tgt := 99) hx hb dX12_name_95 (of_decide_eq_true rfl) ?_
          have ho := Option.some.inj hfn
          subst ho
          exact zri hx hb hr hK hP hD hS hQ rfl hlocks dX12_name_99
        have hfn := (if_neg c_21).symm.trans hfn
        refine lv_bipush (v := 32) hx hb dX12_name_66 zcb_32 ?_
        refine lv_iload_n hx hb dX12_name_68 rfl (lv_at hl 1 rfl) ?_
        refine lv_imul hx hb dX12_name_69 ?_
        refine lv_aload_n hx hb dX12_name_70 rfl (lv_at hl 2 rfl) ?_
        refine va_get (D := (dC, dI)) (ci := 12) (v := .ref (a0 0)) (C := RX12) (T := TX12) (N := 67) hx hb hts zn_X12_name_X12 hown hK hP 0 rfl rfl 0 (of_decide_eq_true rfl) (hts (.fieldLink RX12 7 "ShortEnoughModel" "tape" "[I") zw_X12_name_903) (fun _ h9 => h9) rfl dX12_name_71 ?_
        refine lv_iload_n hx hb dX12_name_74 rfl (lv_at hl 0 rfl) ?_
        obtain ⟨h_27, hfn⟩ := zg_s hfn
        refine va_iald hx hb hK hP 1 0 rfl rfl h_27 dX12_name_75 ?_
        refine lv_iadd hx hb dX12_name_76 ?_
        refine lv_bipush (v := 96) hx hb dX12_name_77 zcb_96 ?_
        refine lv_isub hx hb dX12_name_79 ?_
        refine lv_istore_n (lv' := [(1, .int (((32 * s_10.1) + (f1 s_10.2.toNatClampNeg)) - 96)), (2, .int s_10.2), (0, .ref h0)]) hx hb dX12_name_80 rfl hl (of_decide_eq_true rfl) rfl (fun ls hl => ?_)
        refine lv_iinc (v := (s_10.2 + (-1))) (lv' := [(2, .int (s_10.2 + (-1))), (1, .int (((32 * s_10.1) + (f1 s_10.2.toNatClampNeg)) - 96)), (0, .ref h0)]) hx hb dX12_name_81 hl (k := 1) rfl rfl (of_decide_eq_true rfl) rfl (fun ls hl => ?_)
        refine lv_goto (tgt := 51) hx hb dX12_name_84 (of_decide_eq_true rfl) ?_
        exact ih_10 ((((32 * s_10.1) + (f1 s_10.2.toNatClampNeg)) - 96), (s_10.2 + (-1))) H locs ls hfn hP hD hS (lv_sub hl [0, 1, 2] rfl)
    exact lp_10 _ (0, (o_1.1 - 1)) H locs ls hfn hP hD hS (lv_sub hl [0, 1, 2] rfl)
  refine lv_if_eq (tgt := 42) hx hb dX12_name_8 (of_decide_eq_true rfl) (fun c_28 => ?_) (fun c_28 => ?_)
  · have hfn := (if_pos c_28).symm.trans hfn
    exact jp_9 (o_1.2.2.1, o_1.2.2.2) H locs ls hfn hP hD hS (lv_sub hl [0] rfl)
  have hfn := (if_neg c_28).symm.trans hfn
  refine lv_aload_n hx hb dX12_name_11 rfl (lv_at hl 0 rfl) ?_
  obtain ⟨o_29, hqo_29, hfn⟩ := zb_s hfn
  refine zcVi (ci := 12) (rest := []) (pc' := 15) (ws' := [(h0, .inr (12, zO a0 (zI (zI (zI (zI b0 6 o_1.1) 7 o_1.2.1) 8 o_1.2.2.1) 9 o_1.2.2.2) c0)), zVi (a0 0) k1 1200 f1, zVi (a0 10) k2 71 f2]) hP hK hD hS hA ⟨hx, hb, hml, hown, hts⟩ (zf_X12_own l dC dI h0 a0 (zI (zI (zI (zI b0 6 o_1.1) 7 o_1.2.1) 8 o_1.2.2.1) 9 o_1.2.2.2) c0 k2 f2 k1 f1 o_29 hqo_29 H.size) (cwV 0 hts gX12_name_X12_own rfl rfl rfl zhd_X12_own ⟨Nat.le_of_ble_eq_true rfl, Nat.le_of_ble_eq_true rfl⟩) [0, 2, 1] rfl (of_decide_eq_true rfl) [1, 0] rfl rfl rfl rfl hl.1 rfl (Nat.le_of_ble_eq_true rfl) dX12_name_12 ⟨Nat.le_of_ble_eq_true rfl, Nat.le_of_ble_eq_true rfl⟩ [some 0, some 2, some 1] (of_decide_eq_true rfl) (of_decide_eq_true rfl) rfl rfl rfl (fun H locs hP hD hS => ?_)
  refine lv_iconst (v := (-1)) hx hb dX12_name_15 zci_m1 ?_
  obtain ⟨j_33, ej_33, hfn⟩ := zj_g hfn
  have jp_33 : ∀ (s_33 : Unit) (H : Heap) (locs : List Loc) (ls : Array Slot), j_33 s_33 = some o → va_P (dC, dI) vwCl [(h0, .inr (12, zO a0 (zI (zI (zI (zI b0 6 o_1.1) 7 o_1.2.1) 8 o_1.2.2.1) 9 o_1.2.2.2) c0)), zVi (a0 0) k1 1200 f1, zVi (a0 10) k2 71 f2] H → va_D A [(h0, .inr (12, zO a0 (zI (zI (zI (zI b0 6 o_1.1) 7 o_1.2.1) 8 o_1.2.2.1) 9 o_1.2.2.2) c0)), zVi (a0 0) k1 1200 f1, zVi (a0 10) k2 71 f2] → va_S A s.heap H locs → lv_has ls 3 [(0, .ref h0)] → W p l e (headSpec wsX12_name ({ frames := 3, cells := 0, slots := 0, locals := 62 })).room s m ([.ref h0] : List Value).toArray below meth c H locs 0 0 Q (F0 m 33 ls []) := by
    intro s_33 H locs ls hfn hP hD hS hl
    have hfn := zj_s ej_33 hfn
    refine lv_aload_n hx hb dX12_name_33 rfl (lv_at hl 0 rfl) ?_
    refine lv_iconst (v := 1) hx hb dX12_name_34 zci_1 ?_
    refine lv_aload_n hx hb dX12_name_35 rfl (lv_at hl 0 rfl) ?_
    refine va_get (D := (dC, dI)) (ci := 12) (v := .int o_1.2.1) (C := RX12) (T := TX12) (N := 67) hx hb hts zn_X12_name_X12 hown hK hP 0 rfl rfl 7 (of_decide_eq_true rfl) (hts (.fieldLink RX12 32 "ShortEnoughModel" "begun" "I") zw_X12_name_902) (fun _ h9 => h9) rfl dX12_name_36 ?_
    obtain ⟨o_34, hqo_34, hfn⟩ := zb_s hfn
    refine zcVv (ci := 12) (rest := []) (pc' := 42) (ws' := [(h0, .inr (12, zO a0 (zI (zI (zI (zI b0 6 o_1.1) 7 o_1.2.1) 8 o_34.1) 9 o_34.2) c0)), zVi (a0 0) k1 1200 f1, zVi (a0 10) k2 71 f2]) hP hK hD hS hA ⟨hx, hb, hml, hown, hts⟩ (zf_X12_faults l dC dI h0 1 o_1.2.1 a0 (zI (zI (zI (zI b0 6 o_1.1) 7 o_1.2.1) 8 o_1.2.2.1) 9 o_1.2.2.2) c0 o_34 hqo_34 H.size) (cwV 2 hts gX12_name_X12_faults rfl rfl rfl zhd_X12_faults ⟨Nat.le_of_ble_eq_true rfl, Nat.le_of_ble_eq_true rfl⟩) [0] rfl (of_decide_eq_true rfl) [] rfl rfl rfl rfl hl.1 rfl (Nat.le_of_ble_eq_true rfl) dX12_name_39 ⟨Nat.le_of_ble_eq_true rfl, Nat.le_of_ble_eq_true rfl⟩ [some 0] (of_decide_eq_true rfl) (of_decide_eq_true rfl) rfl rfl rfl (fun H locs hP hD hS => ?_)
    exact jp_9 (o_34.1, o_34.2) H locs ls hfn hP hD hS (lv_sub hl [0] rfl)
  refine lv_icmp_ne (tgt := 33) hx hb dX12_name_16 (of_decide_eq_true rfl) (fun c_38 => ?_) (fun c_38 => ?_)
  · have hfn := (if_neg c_38).symm.trans hfn
    exact jp_33 () H locs ls hfn hP hD hS (lv_sub hl [0] rfl)
  have hfn := (if_pos c_38).symm.trans hfn
  refine lv_aload_n hx hb dX12_name_19 rfl (lv_at hl 0 rfl) ?_
  refine va_get (D := (dC, dI)) (ci := 12) (v := .int o_1.1) (C := RX12) (T := TX12) (N := 67) hx hb hts zn_X12_name_X12 hown hK hP 0 rfl rfl 6 (of_decide_eq_true rfl) (hts (.fieldLink RX12 29 "ShortEnoughModel" "at" "I") zw_X12_name_901) (fun _ h9 => h9) rfl dX12_name_20 ?_
  refine lv_aload_n hx hb dX12_name_23 rfl (lv_at hl 0 rfl) ?_
  refine va_get (D := (dC, dI)) (ci := 12) (v := .int o_1.2.1) (C := RX12) (T := TX12) (N := 67) hx hb hts zn_X12_name_X12 hown hK hP 0 rfl rfl 7 (of_decide_eq_true rfl) (hts (.fieldLink RX12 32 "ShortEnoughModel" "begun" "I") zw_X12_name_902) (fun _ h9 => h9) rfl dX12_name_24 ?_
  refine lv_isub hx hb dX12_name_27 ?_
  refine lv_bipush (v := 6) hx hb dX12_name_28 zcb_6 ?_
  refine lv_icmp_le (tgt := 42) hx hb dX12_name_30 (of_decide_eq_true rfl) (fun c_39 => ?_) (fun c_39 => ?_)
  · have hfn := (if_pos c_39).symm.trans hfn
    exact jp_9 (o_1.2.2.1, o_1.2.2.2) H locs ls hfn hP hD hS (lv_sub hl [0] rfl)
  have hfn := (if_neg c_39).symm.trans hfn
  exact jp_33 () H locs ls hfn hP hD hS (lv_sub hl [0] rfl)
theorem zn_X12_digits_X12 : ∀ w ∈ wsX120, w ∈ wsX12_digits := fun _ h => List.mem_cons_of_mem _ (List.mem_append_right _ h)
theorem zw_X12_digits_905 : Cond.fieldLink RX12 29 "ShortEnoughModel" "at" "I" ∈ wsX12_digits := List.mem_of_getElem? (i := 1) (by decide +kernel)
theorem zw_X12_digits_906 : Cond.fieldLink RX12 32 "ShortEnoughModel" "begun" "I" ∈ wsX12_digits := List.mem_of_getElem? (i := 2) (by decide +kernel)
theorem zw_X12_digits_907 : Cond.constantLong RX12 255 (10) ∈ wsX12_digits := List.mem_of_getElem? (i := 3) (by decide +kernel)
theorem zw_X12_digits_908 : Cond.constantLong RX12 257 (48) ∈ wsX12_digits := List.mem_of_getElem? (i := 4) (by decide +kernel)
set_option maxHeartbeats 4000000 in
set_option maxRecDepth 100000 in
theorem zf_X12_digits (l : Launch) (dC : Nat → ClassId) (dI : Nat → Nat → Nat) (h0 : Nat) (a0 : Nat → Nat) (b0 : Nat → Int32) (c0 : Nat → Int64) (k1 : Nat) (f1 : Nat → Int32) (o : Int64 × Int32 × Int32 × Int32 × Int32) (hfn : fn_X12_digits (b0 5) (b0 6) (b0 7) (b0 8) (b0 9) f1 = some o) (sz : Nat) : zMl l yX12_digits wsX12_digits ({ frames := 2, cells := 0, slots := 0, locals := 42 }) (dC, dI) vwCl [.ref h0] [(h0, .inr (12, zO a0 b0 c0)), zVi (a0 0) k1 1200 f1] [(k1, .int)] (fun r _ => r = o.1) [(h0, .inr (12, zO a0 (zI (zI (zI (zI b0 6 o.2.1) 7 o.2.2.1) 8 o.2.2.2.1) 9 o.2.2.2.2) c0)), zVi (a0 0) k1 1200 f1] [(k1, .int)] sz := by
  refine zgol (cc := cX12_digits) (maxL := 3) (ret := (some .long)) (C0 := RX12) (lv0 := [(0, .ref h0)]) zpl_X12 rfl rfl rfl (Nat.le_of_ble_eq_true rfl) ?_
  intro p e s m below meth c A ls Q hx hb hr hts hown hlocks hml hP hK hD hA hS hl hQ
  unfold fn_X12_digits at hfn
  refine lv_aload_n hx hb dX12_digits_0 rfl (lv_at hl 0 rfl) ?_
  obtain ⟨o_1, hqo_1, hfn⟩ := zb_s hfn
  refine zcVb (ci := 12) (rest := []) (pc' := 4) (ws' := [(h0, .inr (12, zO a0 b0 c0)), zVi (a0 0) k1 1200 f1]) hP hK hD hS hA ⟨hx, hb, hml, hown, hts⟩ (zf_X12_goesWell l dC dI h0 a0 b0 c0 o_1 hqo_1 s.heap.size) (cwV 0 hts gX12_digits_X12_goesWell rfl rfl rfl zhd_X12_goesWell ⟨Nat.le_of_ble_eq_true rfl, Nat.le_of_ble_eq_true rfl⟩) [0] rfl (of_decide_eq_true rfl) [] rfl rfl rfl rfl hl.1 rfl (Nat.le_of_ble_eq_true rfl) dX12_digits_1 ⟨Nat.le_of_ble_eq_true rfl, Nat.le_of_ble_eq_true rfl⟩ [some 0] (of_decide_eq_true rfl) (of_decide_eq_true rfl) rfl rfl rfl (fun H locs hw_4n hP hD hS => ?_)
  refine lv_if_ne (tgt := 9) hx hb dX12_digits_4 (of_decide_eq_true rfl) (fun c_5 => ?_) (fun c_5 => ?_)
  · have hfn := (if_neg c_5).symm.trans hfn
    refine lv_aload_n hx hb dX12_digits_9 rfl (lv_at hl 0 rfl) ?_
    obtain ⟨o_6, hqo_6, hfn⟩ := zb_s hfn
    refine zcVi (ci := 12) (rest := []) (pc' := 13) (ws' := [(h0, .inr (12, zO a0 (zI b0 6 o_6.2) c0)), zVi (a0 0) k1 1200 f1]) hP hK hD hS hA ⟨hx, hb, hml, hown, hts⟩ (zf_X12_here l dC dI h0 a0 b0 c0 k1 f1 o_6 hqo_6 H.size) (cwV 0 hts gX12_digits_X12_here rfl rfl rfl zhd_X12_here ⟨Nat.le_of_ble_eq_true rfl, Nat.le_of_ble_eq_true rfl⟩) [0, 1] rfl (of_decide_eq_true rfl) [0] rfl rfl rfl rfl hl.1 rfl (Nat.le_of_ble_eq_true rfl) dX12_digits_10 ⟨Nat.le_of_ble_eq_true rfl, Nat.le_of_ble_eq_true rfl⟩ [some 0, some 1] (of_decide_eq_true rfl) (of_decide_eq_true rfl) rfl rfl rfl (fun H locs hP hD hS => ?_)
    refine lv_pop hx hb dX12_digits_13 rfl ?_
    refine lv_aload_n hx hb dX12_digits_14 rfl (lv_at hl 0 rfl) ?_
    refine lv_aload_n hx hb dX12_digits_15 rfl (lv_at hl 0 rfl) ?_
    refine va_get (D := (dC, dI)) (ci := 12) (v := .int o_6.2) (C := RX12) (T := TX12) (N := 67) hx hb hts zn_X12_digits_X12 hown hK hP 0 rfl rfl 6 (of_decide_eq_true rfl) (hts (.fieldLink RX12 29 "ShortEnoughModel" "at" "I") zw_X12_digits_905) (fun _ h9 => h9) rfl dX12_digits_16 ?_
    refine va_put (D := (dC, dI)) (ci := 12) (v := .int o_6.2) (ty := .int) (C := RX12) (T := TX12) (N := 67) hx hb hts zn_X12_digits_X12 tyX12 tyX12_ok nmX12 hown hK hP hD hS 0 rfl rfl 7 (of_decide_eq_true rfl) (hts (.fieldLink RX12 32 "ShortEnoughModel" "begun" "I") zw_X12_digits_906) (fun _ h9 => h9) rfl (tyX12_ok 7 (of_decide_eq_true rfl)) rfl rfl (Nat.le_of_ble_eq_true rfl) dX12_digits_19 (fun H locs hP hD hS => ?_)
    have hP : va_P (dC, dI) vwCl [(h0, .inr (12, zO a0 (zI (zI b0 6 o_6.2) 7 o_6.2) c0)), zVi (a0 0) k1 1200 f1] H := hP
    have hD := zDW hD hP rfl
    refine lv_aload_n hx hb dX12_digits_22 rfl (lv_at hl 0 rfl) ?_
    refine lv_aload_n hx hb dX12_digits_23 rfl (lv_at hl 0 rfl) ?_
    refine va_get (D := (dC, dI)) (ci := 12) (v := .int o_6.2) (C := RX12) (T := TX12) (N := 67) hx hb hts zn_X12_digits_X12 hown hK hP 0 rfl rfl 6 (of_decide_eq_true rfl) (hts (.fieldLink RX12 29 "ShortEnoughModel" "at" "I") zw_X12_digits_905) (fun _ h9 => h9) rfl dX12_digits_24 ?_
    obtain ⟨o_10, hqo_10, hfn⟩ := zb_s hfn
    refine zcVb (ci := 12) (rest := []) (pc' := 30) (ws' := [(h0, .inr (12, zO a0 (zI (zI b0 6 o_6.2) 7 o_6.2) c0)), zVi (a0 0) k1 1200 f1]) hP hK hD hS hA ⟨hx, hb, hml, hown, hts⟩ (zf_X12_isDigit l dC dI h0 o_6.2 a0 (zI (zI b0 6 o_6.2) 7 o_6.2) c0 k1 f1 o_10 hqo_10 H.size) (cwV 1 hts gX12_digits_X12_isDigit rfl rfl rfl zhd_X12_isDigit ⟨Nat.le_of_ble_eq_true rfl, Nat.le_of_ble_eq_true rfl⟩) [0, 1] rfl (of_decide_eq_true rfl) [0] rfl rfl rfl rfl hl.1 rfl (Nat.le_of_ble_eq_true rfl) dX12_digits_27 ⟨Nat.le_of_ble_eq_true rfl, Nat.le_of_ble_eq_true rfl⟩ [some 0, some 1] (of_decide_eq_true rfl) (of_decide_eq_true rfl) rfl rfl rfl (fun H locs hw_13n hP hD hS => ?_)
    refine lv_if_eq (tgt := 59) hx hb dX12_digits_30 (of_decide_eq_true rfl) (fun c_14 => ?_) (fun c_14 => ?_)
    · have hfn := (if_pos c_14).symm.trans hfn
      refine lv_aload_n hx hb dX12_digits_59 rfl (lv_at hl 0 rfl) ?_
      refine lv_iconst (v := 1) hx hb dX12_digits_60 zci_1 ?_
      refine lv_aload_n hx hb dX12_digits_61 rfl (lv_at hl 0 rfl) ?_
      refine va_get (D := (dC, dI)) (ci := 12) (v := .int o_6.2) (C := RX12) (T := TX12) (N := 67) hx hb hts zn_X12_digits_X12 hown hK hP 0 rfl rfl 6 (of_decide_eq_true rfl) (hts (.fieldLink RX12 29 "ShortEnoughModel" "at" "I") zw_X12_digits_905) (fun _ h9 => h9) rfl dX12_digits_62 ?_
      obtain ⟨o_15, hqo_15, hfn⟩ := zb_s hfn
      refine zcVv (ci := 12) (rest := []) (pc' := 68) (ws' := [(h0, .inr (12, zO a0 (zI (zI (zI (zI b0 6 o_6.2) 7 o_6.2) 8 o_15.1) 9 o_15.2) c0)), zVi (a0 0) k1 1200 f1]) hP hK hD hS hA ⟨hx, hb, hml, hown, hts⟩ (zf_X12_faults l dC dI h0 1 o_6.2 a0 (zI (zI b0 6 o_6.2) 7 o_6.2) c0 o_15 hqo_15 H.size) (cwV 2 hts gX12_digits_X12_faults rfl rfl rfl zhd_X12_faults ⟨Nat.le_of_ble_eq_true rfl, Nat.le_of_ble_eq_true rfl⟩) [0] rfl (of_decide_eq_true rfl) [] rfl rfl rfl rfl hl.1 rfl (Nat.le_of_ble_eq_true rfl) dX12_digits_65 ⟨Nat.le_of_ble_eq_true rfl, Nat.le_of_ble_eq_true rfl⟩ [some 0] (of_decide_eq_true rfl) (of_decide_eq_true rfl) rfl rfl rfl (fun H locs hP hD hS => ?_)
      refine lv_lconst (v := 0) hx hb dX12_digits_68 (by decide +kernel) ?_
      have ho := Option.some.inj hfn
      subst ho
      exact zrl hx hb hr hK hP hD hS hQ rfl hlocks dX12_digits_69
    have hfn := (if_neg c_14).symm.trans hfn
    refine lv_aload_n hx hb dX12_digits_33 rfl (lv_at hl 0 rfl) ?_
    refine lv_aload_n hx hb dX12_digits_34 rfl (lv_at hl 0 rfl) ?_
    refine va_get (D := (dC, dI)) (ci := 12) (v := .int o_6.2) (C := RX12) (T := TX12) (N := 67) hx hb hts zn_X12_digits_X12 hown hK hP 0 rfl rfl 6 (of_decide_eq_true rfl) (hts (.fieldLink RX12 29 "ShortEnoughModel" "at" "I") zw_X12_digits_905) (fun _ h9 => h9) rfl dX12_digits_35 ?_
    refine lv_iconst (v := 1) hx hb dX12_digits_38 zci_1 ?_
    refine lv_isub hx hb dX12_digits_39 ?_
    obtain ⟨o_19, hqo_19, hfn⟩ := zb_s hfn
    refine zcVb (ci := 12) (rest := []) (pc' := 43) (ws' := [(h0, .inr (12, zO a0 (zI (zI b0 6 o_6.2) 7 o_6.2) c0)), zVi (a0 0) k1 1200 f1]) hP hK hD hS hA ⟨hx, hb, hml, hown, hts⟩ (zf_X12_isSmall l dC dI h0 (o_6.2 - 1) a0 (zI (zI b0 6 o_6.2) 7 o_6.2) c0 k1 f1 o_19 hqo_19 H.size) (cwV 1 hts gX12_digits_X12_isSmall rfl rfl rfl zhd_X12_isSmall ⟨Nat.le_of_ble_eq_true rfl, Nat.le_of_ble_eq_true rfl⟩) [0, 1] rfl (of_decide_eq_true rfl) [0] rfl rfl rfl rfl hl.1 rfl (Nat.le_of_ble_eq_true rfl) dX12_digits_40 ⟨Nat.le_of_ble_eq_true rfl, Nat.le_of_ble_eq_true rfl⟩ [some 0, some 1] (of_decide_eq_true rfl) (of_decide_eq_true rfl) rfl rfl rfl (fun H locs hw_22n hP hD hS => ?_)
    refine lv_if_ne (tgt := 59) hx hb dX12_digits_43 (of_decide_eq_true rfl) (fun c_23 => ?_) (fun c_23 => ?_)
    · have hfn := (if_neg c_23).symm.trans hfn
      refine lv_aload_n hx hb dX12_digits_59 rfl (lv_at hl 0 rfl) ?_
      refine lv_iconst (v := 1) hx hb dX12_digits_60 zci_1 ?_
      refine lv_aload_n hx hb dX12_digits_61 rfl (lv_at hl 0 rfl) ?_
      refine va_get (D := (dC, dI)) (ci := 12) (v := .int o_6.2) (C := RX12) (T := TX12) (N := 67) hx hb hts zn_X12_digits_X12 hown hK hP 0 rfl rfl 6 (of_decide_eq_true rfl) (hts (.fieldLink RX12 29 "ShortEnoughModel" "at" "I") zw_X12_digits_905) (fun _ h9 => h9) rfl dX12_digits_62 ?_
      obtain ⟨o_24, hqo_24, hfn⟩ := zb_s hfn
      refine zcVv (ci := 12) (rest := []) (pc' := 68) (ws' := [(h0, .inr (12, zO a0 (zI (zI (zI (zI b0 6 o_6.2) 7 o_6.2) 8 o_24.1) 9 o_24.2) c0)), zVi (a0 0) k1 1200 f1]) hP hK hD hS hA ⟨hx, hb, hml, hown, hts⟩ (zf_X12_faults l dC dI h0 1 o_6.2 a0 (zI (zI b0 6 o_6.2) 7 o_6.2) c0 o_24 hqo_24 H.size) (cwV 2 hts gX12_digits_X12_faults rfl rfl rfl zhd_X12_faults ⟨Nat.le_of_ble_eq_true rfl, Nat.le_of_ble_eq_true rfl⟩) [0] rfl (of_decide_eq_true rfl) [] rfl rfl rfl rfl hl.1 rfl (Nat.le_of_ble_eq_true rfl) dX12_digits_65 ⟨Nat.le_of_ble_eq_true rfl, Nat.le_of_ble_eq_true rfl⟩ [some 0] (of_decide_eq_true rfl) (of_decide_eq_true rfl) rfl rfl rfl (fun H locs hP hD hS => ?_)
      refine lv_lconst (v := 0) hx hb dX12_digits_68 (by decide +kernel) ?_
      have ho := Option.some.inj hfn
      subst ho
      exact zrl hx hb hr hK hP hD hS hQ rfl hlocks dX12_digits_69
    have hfn := (if_pos c_23).symm.trans hfn
    refine lv_aload_n hx hb dX12_digits_46 rfl (lv_at hl 0 rfl) ?_
    refine lv_aload_n hx hb dX12_digits_47 rfl (lv_at hl 0 rfl) ?_
    refine va_get (D := (dC, dI)) (ci := 12) (v := .int o_6.2) (C := RX12) (T := TX12) (N := 67) hx hb hts zn_X12_digits_X12 hown hK hP 0 rfl rfl 6 (of_decide_eq_true rfl) (hts (.fieldLink RX12 29 "ShortEnoughModel" "at" "I") zw_X12_digits_905) (fun _ h9 => h9) rfl dX12_digits_48 ?_
    refine lv_iconst (v := 1) hx hb dX12_digits_51 zci_1 ?_
    refine lv_isub hx hb dX12_digits_52 ?_
    obtain ⟨o_28, hqo_28, hfn⟩ := zb_s hfn
    refine zcVb (ci := 12) (rest := []) (pc' := 56) (ws' := [(h0, .inr (12, zO a0 (zI (zI b0 6 o_6.2) 7 o_6.2) c0)), zVi (a0 0) k1 1200 f1]) hP hK hD hS hA ⟨hx, hb, hml, hown, hts⟩ (zf_X12_isDigit l dC dI h0 (o_6.2 - 1) a0 (zI (zI b0 6 o_6.2) 7 o_6.2) c0 k1 f1 o_28 hqo_28 H.size) (cwV 1 hts gX12_digits_X12_isDigit rfl rfl rfl zhd_X12_isDigit ⟨Nat.le_of_ble_eq_true rfl, Nat.le_of_ble_eq_true rfl⟩) [0, 1] rfl (of_decide_eq_true rfl) [0] rfl rfl rfl rfl hl.1 rfl (Nat.le_of_ble_eq_true rfl) dX12_digits_53 ⟨Nat.le_of_ble_eq_true rfl, Nat.le_of_ble_eq_true rfl⟩ [some 0, some 1] (of_decide_eq_true rfl) (of_decide_eq_true rfl) rfl rfl rfl (fun H locs hw_31n hP hD hS => ?_)
    refine lv_if_eq (tgt := 70) hx hb dX12_digits_56 (of_decide_eq_true rfl) (fun c_32 => ?_) (fun c_32 => ?_)
    · have hfn := (if_pos c_32).symm.trans hfn
      refine lv_lconst (v := 0) hx hb dX12_digits_70 (by decide +kernel) ?_
      refine lv_lstore_n (lv' := [(1, .long 0), (0, .ref h0)]) hx hb dX12_digits_71 rfl hl (of_decide_eq_true rfl) rfl (fun ls hl => ?_)
      obtain ⟨bd_33, ebd_33, hfn⟩ := zl_g hfn
      have lp_33 : ∀ (n : Nat) (s_33 : Int64 × Int32) (H : Heap) (locs : List Loc) (ls : Array Slot), zl bd_33 n s_33 = some o → va_P (dC, dI) vwCl [(h0, .inr (12, zO a0 (zI (zI b0 6 s_33.2) 7 o_6.2) c0)), zVi (a0 0) k1 1200 f1] H → va_D A [(h0, .inr (12, zO a0 (zI (zI b0 6 s_33.2) 7 o_6.2) c0)), zVi (a0 0) k1 1200 f1] → va_S A s.heap H locs → lv_has ls 3 [(1, .long s_33.1), (0, .ref h0)] → W p l e (headSpec wsX12_digits ({ frames := 2, cells := 0, slots := 0, locals := 42 })).room s m ([.ref h0] : List Value).toArray below meth c H locs 0 0 Q (F0 m 72 ls []) := by
        intro n
        induction n with
        | zero => exact fun _ _ _ _ hfn => (zl_0 hfn).elim
        | succ n ih_33 =>
          intro s_33 H locs ls hfn hP hD hS hl
          have hfn := zl_s ebd_33 hfn
          refine lv_aload_n hx hb dX12_digits_72 rfl (lv_at hl 1 rfl) ?_
          refine lv_aload_n hx hb dX12_digits_73 rfl (lv_at hl 1 rfl) ?_
          refine va_get (D := (dC, dI)) (ci := 12) (v := .int s_33.2) (C := RX12) (T := TX12) (N := 67) hx hb hts zn_X12_digits_X12 hown hK hP 0 rfl rfl 6 (of_decide_eq_true rfl) (hts (.fieldLink RX12 29 "ShortEnoughModel" "at" "I") zw_X12_digits_905) (fun _ h9 => h9) rfl dX12_digits_74 ?_
          obtain ⟨o_34, hqo_34, hfn⟩ := zb_s hfn
          refine zcVb (ci := 12) (rest := []) (pc' := 80) (ws' := [(h0, .inr (12, zO a0 (zI (zI b0 6 s_33.2) 7 o_6.2) c0)), zVi (a0 0) k1 1200 f1]) hP hK hD hS hA ⟨hx, hb, hml, hown, hts⟩ (zf_X12_isDigit l dC dI h0 s_33.2 a0 (zI (zI b0 6 s_33.2) 7 o_6.2) c0 k1 f1 o_34 hqo_34 H.size) (cwV 1 hts gX12_digits_X12_isDigit rfl rfl rfl zhd_X12_isDigit ⟨Nat.le_of_ble_eq_true rfl, Nat.le_of_ble_eq_true rfl⟩) [0, 1] rfl (of_decide_eq_true rfl) [0] rfl rfl rfl rfl hl.1 rfl (Nat.le_of_ble_eq_true rfl) dX12_digits_77 ⟨Nat.le_of_ble_eq_true rfl, Nat.le_of_ble_eq_true rfl⟩ [some 0, some 1] (of_decide_eq_true rfl) (of_decide_eq_true rfl) rfl rfl rfl (fun H locs hw_37n hP hD hS => ?_)
          refine lv_if_eq (tgt := 134) hx hb dX12_digits_80 (of_decide_eq_true rfl) (fun c_38 => ?_) (fun c_38 => ?_)
          · have hfn := (if_pos c_38).symm.trans hfn
            refine lv_aload_n hx hb dX12_digits_134 rfl (lv_at hl 1 rfl) ?_
            refine va_get (D := (dC, dI)) (ci := 12) (v := .int s_33.2) (C := RX12) (T := TX12) (N := 67) hx hb hts zn_X12_digits_X12 hown hK hP 0 rfl rfl 6 (of_decide_eq_true rfl) (hts (.fieldLink RX12 29 "ShortEnoughModel" "at" "I") zw_X12_digits_905) (fun _ h9 => h9) rfl dX12_digits_135 ?_
            refine lv_aload_n hx hb dX12_digits_138 rfl (lv_at hl 1 rfl) ?_
            refine va_get (D := (dC, dI)) (ci := 12) (v := .int o_6.2) (C := RX12) (T := TX12) (N := 67) hx hb hts zn_X12_digits_X12 hown hK hP 0 rfl rfl 7 (of_decide_eq_true rfl) (hts (.fieldLink RX12 32 "ShortEnoughModel" "begun" "I") zw_X12_digits_906) (fun _ h9 => h9) rfl dX12_digits_139 ?_
            refine lv_isub hx hb dX12_digits_142 ?_
            refine lv_bipush (v := 8) hx hb dX12_digits_143 zcb_8 ?_
            refine lv_icmp_le (tgt := 157) hx hb dX12_digits_145 (of_decide_eq_true rfl) (fun c_39 => ?_) (fun c_39 => ?_)
            · have hfn := (if_pos c_39).symm.trans hfn
              refine lv_aload_n hx hb dX12_digits_157 rfl (lv_at hl 1 rfl) ?_
              obtain ⟨o_40, hqo_40, hfn⟩ := zb_s hfn
              refine zcVb (ci := 12) (rest := []) (pc' := 161) (ws' := [(h0, .inr (12, zO a0 (zI (zI b0 6 s_33.2) 7 o_6.2) c0)), zVi (a0 0) k1 1200 f1]) hP hK hD hS hA ⟨hx, hb, hml, hown, hts⟩ (zf_X12_goesWell l dC dI h0 a0 (zI (zI b0 6 s_33.2) 7 o_6.2) c0 o_40 hqo_40 H.size) (cwV 0 hts gX12_digits_X12_goesWell rfl rfl rfl zhd_X12_goesWell ⟨Nat.le_of_ble_eq_true rfl, Nat.le_of_ble_eq_true rfl⟩) [0] rfl (of_decide_eq_true rfl) [] rfl rfl rfl rfl hl.1 rfl (Nat.le_of_ble_eq_true rfl) dX12_digits_158 ⟨Nat.le_of_ble_eq_true rfl, Nat.le_of_ble_eq_true rfl⟩ [some 0] (of_decide_eq_true rfl) (of_decide_eq_true rfl) rfl rfl rfl (fun H locs hw_43n hP hD hS => ?_)
              refine lv_if_eq (tgt := 168) hx hb dX12_digits_161 (of_decide_eq_true rfl) (fun c_44 => ?_) (fun c_44 => ?_)
              · have hfn := (if_pos c_44).symm.trans hfn
                refine lv_lconst (v := 0) hx hb dX12_digits_168 (by decide +kernel) ?_
                have ho := Option.some.inj hfn
                subst ho
                exact zrl hx hb hr hK hP hD hS hQ rfl hlocks dX12_digits_169
              have hfn := (if_neg c_44).symm.trans hfn
              refine lv_lload_n hx hb dX12_digits_164 rfl (lv_at hl 0 rfl) ?_
              refine lv_goto (tgt := 169) hx hb dX12_digits_165 (of_decide_eq_true rfl) ?_
              have ho := Option.some.inj hfn
              subst ho
              exact zrl hx hb hr hK hP hD hS hQ rfl hlocks dX12_digits_169
            have hfn := (if_neg c_39).symm.trans hfn
            refine lv_aload_n hx hb dX12_digits_148 rfl (lv_at hl 1 rfl) ?_
            refine lv_iconst (v := 1) hx hb dX12_digits_149 zci_1 ?_
            refine lv_aload_n hx hb dX12_digits_150 rfl (lv_at hl 1 rfl) ?_
            refine va_get (D := (dC, dI)) (ci := 12) (v := .int o_6.2) (C := RX12) (T := TX12) (N := 67) hx hb hts zn_X12_digits_X12 hown hK hP 0 rfl rfl 7 (of_decide_eq_true rfl) (hts (.fieldLink RX12 32 "ShortEnoughModel" "begun" "I") zw_X12_digits_906) (fun _ h9 => h9) rfl dX12_digits_151 ?_
            obtain ⟨o_45, hqo_45, hfn⟩ := zb_s hfn
            refine zcVv (ci := 12) (rest := []) (pc' := 157) (ws' := [(h0, .inr (12, zO a0 (zI (zI (zI (zI b0 6 s_33.2) 7 o_6.2) 8 o_45.1) 9 o_45.2) c0)), zVi (a0 0) k1 1200 f1]) hP hK hD hS hA ⟨hx, hb, hml, hown, hts⟩ (zf_X12_faults l dC dI h0 1 o_6.2 a0 (zI (zI b0 6 s_33.2) 7 o_6.2) c0 o_45 hqo_45 H.size) (cwV 2 hts gX12_digits_X12_faults rfl rfl rfl zhd_X12_faults ⟨Nat.le_of_ble_eq_true rfl, Nat.le_of_ble_eq_true rfl⟩) [0] rfl (of_decide_eq_true rfl) [] rfl rfl rfl rfl hl.1 rfl (Nat.le_of_ble_eq_true rfl) dX12_digits_154 ⟨Nat.le_of_ble_eq_true rfl, Nat.le_of_ble_eq_true rfl⟩ [some 0] (of_decide_eq_true rfl) (of_decide_eq_true rfl) rfl rfl rfl (fun H locs hP hD hS => ?_)
            refine lv_aload_n hx hb dX12_digits_157 rfl (lv_at hl 1 rfl) ?_
            obtain ⟨o_49, hqo_49, hfn⟩ := zb_s hfn
            refine zcVb (ci := 12) (rest := []) (pc' := 161) (ws' := [(h0, .inr (12, zO a0 (zI (zI (zI (zI b0 6 s_33.2) 7 o_6.2) 8 o_45.1) 9 o_45.2) c0)), zVi (a0 0) k1 1200 f1]) hP hK hD hS hA ⟨hx, hb, hml, hown, hts⟩ (zf_X12_goesWell l dC dI h0 a0 (zI (zI (zI (zI b0 6 s_33.2) 7 o_6.2) 8 o_45.1) 9 o_45.2) c0 o_49 hqo_49 H.size) (cwV 0 hts gX12_digits_X12_goesWell rfl rfl rfl zhd_X12_goesWell ⟨Nat.le_of_ble_eq_true rfl, Nat.le_of_ble_eq_true rfl⟩) [0] rfl (of_decide_eq_true rfl) [] rfl rfl rfl rfl hl.1 rfl (Nat.le_of_ble_eq_true rfl) dX12_digits_158 ⟨Nat.le_of_ble_eq_true rfl, Nat.le_of_ble_eq_true rfl⟩ [some 0] (of_decide_eq_true rfl) (of_decide_eq_true rfl) rfl rfl rfl (fun H locs hw_52n hP hD hS => ?_)
            refine lv_if_eq (tgt := 168) hx hb dX12_digits_161 (of_decide_eq_true rfl) (fun c_53 => ?_) (fun c_53 => ?_)
            · have hfn := (if_pos c_53).symm.trans hfn
              refine lv_lconst (v := 0) hx hb dX12_digits_168 (by decide +kernel) ?_
              have ho := Option.some.inj hfn
              subst ho
              exact zrl hx hb hr hK hP hD hS hQ rfl hlocks dX12_digits_169
            have hfn := (if_neg c_53).symm.trans hfn
            refine lv_lload_n hx hb dX12_digits_164 rfl (lv_at hl 0 rfl) ?_
            refine lv_goto (tgt := 169) hx hb dX12_digits_165 (of_decide_eq_true rfl) ?_
            have ho := Option.some.inj hfn
            subst ho
            exact zrl hx hb hr hK hP hD hS hQ rfl hlocks dX12_digits_169
          have hfn := (if_neg c_38).symm.trans hfn
          refine lv_aload_n hx hb dX12_digits_83 rfl (lv_at hl 1 rfl) ?_
          refine va_get (D := (dC, dI)) (ci := 12) (v := .int s_33.2) (C := RX12) (T := TX12) (N := 67) hx hb hts zn_X12_digits_X12 hown hK hP 0 rfl rfl 6 (of_decide_eq_true rfl) (hts (.fieldLink RX12 29 "ShortEnoughModel" "at" "I") zw_X12_digits_905) (fun _ h9 => h9) rfl dX12_digits_84 ?_
          refine lv_aload_n hx hb dX12_digits_87 rfl (lv_at hl 1 rfl) ?_
          refine va_get (D := (dC, dI)) (ci := 12) (v := .int o_6.2) (C := RX12) (T := TX12) (N := 67) hx hb hts zn_X12_digits_X12 hown hK hP 0 rfl rfl 7 (of_decide_eq_true rfl) (hts (.fieldLink RX12 32 "ShortEnoughModel" "begun" "I") zw_X12_digits_906) (fun _ h9 => h9) rfl dX12_digits_88 ?_
          refine lv_isub hx hb dX12_digits_91 ?_
          refine lv_bipush (v := 8) hx hb dX12_digits_92 zcb_8 ?_
          refine lv_icmp_ge (tgt := 119) hx hb dX12_digits_94 (of_decide_eq_true rfl) (fun c_54 => ?_) (fun c_54 => ?_)
          · have hfn := (if_pos c_54).symm.trans hfn
            refine lv_lload_n hx hb dX12_digits_119 rfl (lv_at hl 0 rfl) ?_
            refine lv_lstore_n (lv' := [(1, .long s_33.1), (0, .ref h0)]) hx hb dX12_digits_120 rfl hl (of_decide_eq_true rfl) rfl (fun ls hl => ?_)
            refine lv_aload_n hx hb dX12_digits_121 rfl (lv_at hl 1 rfl) ?_
            refine lv_dup hx hb dX12_digits_122 rfl ?_
            refine va_get (D := (dC, dI)) (ci := 12) (v := .int s_33.2) (C := RX12) (T := TX12) (N := 67) hx hb hts zn_X12_digits_X12 hown hK hP 0 rfl rfl 6 (of_decide_eq_true rfl) (hts (.fieldLink RX12 29 "ShortEnoughModel" "at" "I") zw_X12_digits_905) (fun _ h9 => h9) rfl dX12_digits_123 ?_
            refine lv_iconst (v := 1) hx hb dX12_digits_126 zci_1 ?_
            refine lv_iadd hx hb dX12_digits_127 ?_
            refine va_put (D := (dC, dI)) (ci := 12) (v := .int (s_33.2 + 1)) (ty := .int) (C := RX12) (T := TX12) (N := 67) hx hb hts zn_X12_digits_X12 tyX12 tyX12_ok nmX12 hown hK hP hD hS 0 rfl rfl 6 (of_decide_eq_true rfl) (hts (.fieldLink RX12 29 "ShortEnoughModel" "at" "I") zw_X12_digits_905) (fun _ h9 => h9) rfl (tyX12_ok 6 (of_decide_eq_true rfl)) rfl rfl (Nat.le_of_ble_eq_true rfl) dX12_digits_128 (fun H locs hP hD hS => ?_)
            have hP : va_P (dC, dI) vwCl [(h0, .inr (12, zO a0 (zI (zI b0 6 (s_33.2 + 1)) 7 o_6.2) c0)), zVi (a0 0) k1 1200 f1] H := hP
            have hD := zDW hD hP rfl
            refine lv_goto (tgt := 72) hx hb dX12_digits_131 (of_decide_eq_true rfl) ?_
            exact ih_33 (s_33.1, (s_33.2 + 1)) H locs ls hfn hP hD hS (lv_sub hl [0, 1] rfl)
          have hfn := (if_neg c_54).symm.trans hfn
          refine lv_ldc2 (v := 10) hx hb hown (hts (.constantLong RX12 255 (10)) zw_X12_digits_907) dX12_digits_97 ?_
          refine lv_lload_n hx hb dX12_digits_100 rfl (lv_at hl 0 rfl) ?_
          refine lv_lmul hx hb dX12_digits_101 ?_
          refine lv_aload_n hx hb dX12_digits_102 rfl (lv_at hl 1 rfl) ?_
          refine lv_aload_n hx hb dX12_digits_103 rfl (lv_at hl 1 rfl) ?_
          refine va_get (D := (dC, dI)) (ci := 12) (v := .int s_33.2) (C := RX12) (T := TX12) (N := 67) hx hb hts zn_X12_digits_X12 hown hK hP 0 rfl rfl 6 (of_decide_eq_true rfl) (hts (.fieldLink RX12 29 "ShortEnoughModel" "at" "I") zw_X12_digits_905) (fun _ h9 => h9) rfl dX12_digits_104 ?_
          obtain ⟨o_55, hqo_55, hfn⟩ := zb_s hfn
          refine zcVi (ci := 12) (rest := [.long ((10 : Int64) * s_33.1)]) (pc' := 110) (ws' := [(h0, .inr (12, zO a0 (zI (zI b0 6 s_33.2) 7 o_6.2) c0)), zVi (a0 0) k1 1200 f1]) hP hK hD hS hA ⟨hx, hb, hml, hown, hts⟩ (zf_X12_byteAt l dC dI h0 s_33.2 a0 (zI (zI b0 6 s_33.2) 7 o_6.2) c0 k1 f1 o_55 hqo_55 H.size) (cwV 1 hts gX12_digits_X12_byteAt rfl rfl rfl zhd_X12_byteAt ⟨Nat.le_of_ble_eq_true rfl, Nat.le_of_ble_eq_true rfl⟩) [0, 1] rfl (of_decide_eq_true rfl) [0] rfl rfl rfl rfl hl.1 rfl (Nat.le_of_ble_eq_true rfl) dX12_digits_107 ⟨Nat.le_of_ble_eq_true rfl, Nat.le_of_ble_eq_true rfl⟩ [some 0, some 1] (of_decide_eq_true rfl) (of_decide_eq_true rfl) rfl rfl rfl (fun H locs hP hD hS => ?_)
          refine lv_i2l (v := o_55.toInt64) hx hb dX12_digits_110 rfl ?_
          refine lv_ladd hx hb dX12_digits_111 ?_
          refine lv_ldc2 (v := 48) hx hb hown (hts (.constantLong RX12 257 (48)) zw_X12_digits_908) dX12_digits_112 ?_
          refine lv_lsub hx hb dX12_digits_115 ?_
          refine lv_goto (tgt := 120) hx hb dX12_digits_116 (of_decide_eq_true rfl) ?_
          refine lv_lstore_n (lv' := [(1, .long ((((10 : Int64) * s_33.1) + o_55.toInt64) - (48 : Int64))), (0, .ref h0)]) hx hb dX12_digits_120 rfl hl (of_decide_eq_true rfl) rfl (fun ls hl => ?_)
          refine lv_aload_n hx hb dX12_digits_121 rfl (lv_at hl 1 rfl) ?_
          refine lv_dup hx hb dX12_digits_122 rfl ?_
          refine va_get (D := (dC, dI)) (ci := 12) (v := .int s_33.2) (C := RX12) (T := TX12) (N := 67) hx hb hts zn_X12_digits_X12 hown hK hP 0 rfl rfl 6 (of_decide_eq_true rfl) (hts (.fieldLink RX12 29 "ShortEnoughModel" "at" "I") zw_X12_digits_905) (fun _ h9 => h9) rfl dX12_digits_123 ?_
          refine lv_iconst (v := 1) hx hb dX12_digits_126 zci_1 ?_
          refine lv_iadd hx hb dX12_digits_127 ?_
          refine va_put (D := (dC, dI)) (ci := 12) (v := .int (s_33.2 + 1)) (ty := .int) (C := RX12) (T := TX12) (N := 67) hx hb hts zn_X12_digits_X12 tyX12 tyX12_ok nmX12 hown hK hP hD hS 0 rfl rfl 6 (of_decide_eq_true rfl) (hts (.fieldLink RX12 29 "ShortEnoughModel" "at" "I") zw_X12_digits_905) (fun _ h9 => h9) rfl (tyX12_ok 6 (of_decide_eq_true rfl)) rfl rfl (Nat.le_of_ble_eq_true rfl) dX12_digits_128 (fun H locs hP hD hS => ?_)
          have hP : va_P (dC, dI) vwCl [(h0, .inr (12, zO a0 (zI (zI b0 6 (s_33.2 + 1)) 7 o_6.2) c0)), zVi (a0 0) k1 1200 f1] H := hP
          have hD := zDW hD hP rfl
          refine lv_goto (tgt := 72) hx hb dX12_digits_131 (of_decide_eq_true rfl) ?_
          exact ih_33 (((((10 : Int64) * s_33.1) + o_55.toInt64) - (48 : Int64)), (s_33.2 + 1)) H locs ls hfn hP hD hS (lv_sub hl [0, 1] rfl)
      exact lp_33 _ (0, o_6.2) H locs ls hfn hP hD hS (lv_sub hl [0, 1] rfl)
    have hfn := (if_neg c_32).symm.trans hfn
    refine lv_aload_n hx hb dX12_digits_59 rfl (lv_at hl 0 rfl) ?_
    refine lv_iconst (v := 1) hx hb dX12_digits_60 zci_1 ?_
    refine lv_aload_n hx hb dX12_digits_61 rfl (lv_at hl 0 rfl) ?_
    refine va_get (D := (dC, dI)) (ci := 12) (v := .int o_6.2) (C := RX12) (T := TX12) (N := 67) hx hb hts zn_X12_digits_X12 hown hK hP 0 rfl rfl 6 (of_decide_eq_true rfl) (hts (.fieldLink RX12 29 "ShortEnoughModel" "at" "I") zw_X12_digits_905) (fun _ h9 => h9) rfl dX12_digits_62 ?_
    obtain ⟨o_59, hqo_59, hfn⟩ := zb_s hfn
    refine zcVv (ci := 12) (rest := []) (pc' := 68) (ws' := [(h0, .inr (12, zO a0 (zI (zI (zI (zI b0 6 o_6.2) 7 o_6.2) 8 o_59.1) 9 o_59.2) c0)), zVi (a0 0) k1 1200 f1]) hP hK hD hS hA ⟨hx, hb, hml, hown, hts⟩ (zf_X12_faults l dC dI h0 1 o_6.2 a0 (zI (zI b0 6 o_6.2) 7 o_6.2) c0 o_59 hqo_59 H.size) (cwV 2 hts gX12_digits_X12_faults rfl rfl rfl zhd_X12_faults ⟨Nat.le_of_ble_eq_true rfl, Nat.le_of_ble_eq_true rfl⟩) [0] rfl (of_decide_eq_true rfl) [] rfl rfl rfl rfl hl.1 rfl (Nat.le_of_ble_eq_true rfl) dX12_digits_65 ⟨Nat.le_of_ble_eq_true rfl, Nat.le_of_ble_eq_true rfl⟩ [some 0] (of_decide_eq_true rfl) (of_decide_eq_true rfl) rfl rfl rfl (fun H locs hP hD hS => ?_)
    refine lv_lconst (v := 0) hx hb dX12_digits_68 (by decide +kernel) ?_
    have ho := Option.some.inj hfn
    subst ho
    exact zrl hx hb hr hK hP hD hS hQ rfl hlocks dX12_digits_69
  have hfn := (if_pos c_5).symm.trans hfn
  refine lv_lconst (v := 0) hx hb dX12_digits_7 (by decide +kernel) ?_
  have ho := Option.some.inj hfn
  subst ho
  exact zrl hx hb hr hK hP hD hS hQ rfl hlocks dX12_digits_8
theorem zn_X12_number_X12 : ∀ w ∈ wsX120, w ∈ wsX12_number := fun _ h => List.mem_cons_of_mem _ (List.mem_append_right _ h)
theorem zw_X12_number_910 : Cond.fieldLink RX12 32 "ShortEnoughModel" "begun" "I" ∈ wsX12_number := List.mem_of_getElem? (i := 1) (by decide +kernel)
set_option maxHeartbeats 4000000 in
set_option maxRecDepth 100000 in
theorem zf_X12_number (l : Launch) (dC : Nat → ClassId) (dI : Nat → Nat → Nat) (h0 : Nat) (j1 : Int64) (j2 : Int64) (a0 : Nat → Nat) (b0 : Nat → Int32) (c0 : Nat → Int64) (k1 : Nat) (f1 : Nat → Int32) (o : Int64 × Int32 × Int32 × Int32 × Int32) (hfn : fn_X12_number j1 j2 (b0 5) (b0 6) (b0 7) (b0 8) (b0 9) f1 = some o) (sz : Nat) : zMl l yX12_number wsX12_number ({ frames := 3, cells := 0, slots := 0, locals := 64 }) (dC, dI) vwCl [.ref h0, .long j1, .long j2] [(h0, .inr (12, zO a0 b0 c0)), zVi (a0 0) k1 1200 f1] [(k1, .int)] (fun r _ => r = o.1) [(h0, .inr (12, zO a0 (zI (zI (zI (zI b0 6 o.2.1) 7 o.2.2.1) 8 o.2.2.2.1) 9 o.2.2.2.2) c0)), zVi (a0 0) k1 1200 f1] [(k1, .int)] sz := by
  refine zgol (cc := cX12_number) (maxL := 7) (ret := (some .long)) (C0 := RX12) (lv0 := [(0, .ref h0), (1, .long j1), (3, .long j2)]) zpl_X12 rfl rfl rfl (Nat.le_of_ble_eq_true rfl) ?_
  intro p e s m below meth c A ls Q hx hb hr hts hown hlocks hml hP hK hD hA hS hl hQ
  unfold fn_X12_number at hfn
  refine lv_aload_n hx hb dX12_number_0 rfl (lv_at hl 0 rfl) ?_
  obtain ⟨o_1, hqo_1, hfn⟩ := zb_s hfn
  refine zcVl (ci := 12) (rest := []) (pc' := 4) (ws' := [(h0, .inr (12, zO a0 (zI (zI (zI (zI b0 6 o_1.2.1) 7 o_1.2.2.1) 8 o_1.2.2.2.1) 9 o_1.2.2.2.2) c0)), zVi (a0 0) k1 1200 f1]) hP hK hD hS hA ⟨hx, hb, hml, hown, hts⟩ (zf_X12_digits l dC dI h0 a0 b0 c0 k1 f1 o_1 hqo_1 s.heap.size) (cwV 0 hts gX12_number_X12_digits rfl rfl rfl zhd_X12_digits ⟨Nat.le_of_ble_eq_true rfl, Nat.le_of_ble_eq_true rfl⟩) [0, 1] rfl (of_decide_eq_true rfl) [0] rfl rfl rfl rfl hl.1 rfl (Nat.le_of_ble_eq_true rfl) dX12_number_1 ⟨Nat.le_of_ble_eq_true rfl, Nat.le_of_ble_eq_true rfl⟩ [some 0, some 1] (of_decide_eq_true rfl) (of_decide_eq_true rfl) rfl rfl rfl (fun H locs hP hD hS => ?_)
  refine lv_lstore (lv' := [(5, .long o_1.1), (0, .ref h0), (1, .long j1), (3, .long j2)]) hx hb dX12_number_4 hl (of_decide_eq_true rfl) rfl (fun ls hl => ?_)
  refine lv_aload_n hx hb dX12_number_6 rfl (lv_at hl 1 rfl) ?_
  obtain ⟨o_5, hqo_5, hfn⟩ := zb_s hfn
  refine zcVb (ci := 12) (rest := []) (pc' := 10) (ws' := [(h0, .inr (12, zO a0 (zI (zI (zI (zI b0 6 o_1.2.1) 7 o_1.2.2.1) 8 o_1.2.2.2.1) 9 o_1.2.2.2.2) c0)), zVi (a0 0) k1 1200 f1]) hP hK hD hS hA ⟨hx, hb, hml, hown, hts⟩ (zf_X12_goesWell l dC dI h0 a0 (zI (zI (zI (zI b0 6 o_1.2.1) 7 o_1.2.2.1) 8 o_1.2.2.2.1) 9 o_1.2.2.2.2) c0 o_5 hqo_5 H.size) (cwV 0 hts gX12_number_X12_goesWell rfl rfl rfl zhd_X12_goesWell ⟨Nat.le_of_ble_eq_true rfl, Nat.le_of_ble_eq_true rfl⟩) [0] rfl (of_decide_eq_true rfl) [] rfl rfl rfl rfl hl.1 rfl (Nat.le_of_ble_eq_true rfl) dX12_number_7 ⟨Nat.le_of_ble_eq_true rfl, Nat.le_of_ble_eq_true rfl⟩ [some 0] (of_decide_eq_true rfl) (of_decide_eq_true rfl) rfl rfl rfl (fun H locs hw_8n hP hD hS => ?_)
  refine lv_if_eq (tgt := 32) hx hb dX12_number_10 (of_decide_eq_true rfl) (fun c_9 => ?_) (fun c_9 => ?_)
  · have hfn := (if_pos c_9).symm.trans hfn
    refine lv_aload_n hx hb dX12_number_32 rfl (lv_at hl 1 rfl) ?_
    obtain ⟨o_10, hqo_10, hfn⟩ := zb_s hfn
    refine zcVb (ci := 12) (rest := []) (pc' := 36) (ws' := [(h0, .inr (12, zO a0 (zI (zI (zI (zI b0 6 o_1.2.1) 7 o_1.2.2.1) 8 o_1.2.2.2.1) 9 o_1.2.2.2.2) c0)), zVi (a0 0) k1 1200 f1]) hP hK hD hS hA ⟨hx, hb, hml, hown, hts⟩ (zf_X12_goesWell l dC dI h0 a0 (zI (zI (zI (zI b0 6 o_1.2.1) 7 o_1.2.2.1) 8 o_1.2.2.2.1) 9 o_1.2.2.2.2) c0 o_10 hqo_10 H.size) (cwV 0 hts gX12_number_X12_goesWell rfl rfl rfl zhd_X12_goesWell ⟨Nat.le_of_ble_eq_true rfl, Nat.le_of_ble_eq_true rfl⟩) [0] rfl (of_decide_eq_true rfl) [] rfl rfl rfl rfl hl.1 rfl (Nat.le_of_ble_eq_true rfl) dX12_number_33 ⟨Nat.le_of_ble_eq_true rfl, Nat.le_of_ble_eq_true rfl⟩ [some 0] (of_decide_eq_true rfl) (of_decide_eq_true rfl) rfl rfl rfl (fun H locs hw_13n hP hD hS => ?_)
    refine lv_if_eq (tgt := 44) hx hb dX12_number_36 (of_decide_eq_true rfl) (fun c_14 => ?_) (fun c_14 => ?_)
    · have hfn := (if_pos c_14).symm.trans hfn
      refine lv_lconst (v := 0) hx hb dX12_number_44 (by decide +kernel) ?_
      have ho := Option.some.inj hfn
      subst ho
      exact zrl hx hb hr hK hP hD hS hQ rfl hlocks dX12_number_45
    have hfn := (if_neg c_14).symm.trans hfn
    refine lv_lload hx hb dX12_number_39 (lv_at hl 0 rfl) ?_
    refine lv_goto (tgt := 45) hx hb dX12_number_41 (of_decide_eq_true rfl) ?_
    have ho := Option.some.inj hfn
    subst ho
    exact zrl hx hb hr hK hP hD hS hQ rfl hlocks dX12_number_45
  have hfn := (if_neg c_9).symm.trans hfn
  refine lv_lload hx hb dX12_number_13 (lv_at hl 0 rfl) ?_
  refine lv_lload_n hx hb dX12_number_15 rfl (lv_at hl 2 rfl) ?_
  refine lv_lload_n hx hb dX12_number_16 rfl (lv_at hl 3 rfl) ?_
  obtain ⟨o_15, hqo_15, hfn⟩ := zb_s hfn
  refine zcSb (rest := []) (pc' := 20) (ws' := [(h0, .inr (12, zO a0 (zI (zI (zI (zI b0 6 o_1.2.1) 7 o_1.2.2.1) 8 o_1.2.2.2.1) 9 o_1.2.2.2.2) c0)), zVi (a0 0) k1 1200 f1]) hP hK hD hS hA ⟨hx, hb, hml, hown, hts⟩ (zf_X12_isIn l dC dI o_1.1 j1 j2 o_15 hqo_15 H.size) (va_cwS 3 hts gX12_number_X12_isIn rfl rfl rfl zhd_X12_isIn.2 ⟨Nat.le_of_ble_eq_true rfl, Nat.le_of_ble_eq_true rfl⟩) [] rfl (of_decide_eq_true rfl) [] rfl rfl hl.1 rfl (Nat.le_of_ble_eq_true rfl) dX12_number_17 ⟨Nat.le_of_ble_eq_true rfl, Nat.le_of_ble_eq_true rfl⟩ [] (of_decide_eq_true rfl) (of_decide_eq_true rfl) rfl rfl rfl (fun H locs hw_18n hP hD hS => ?_)
  refine lv_if_ne (tgt := 32) hx hb dX12_number_20 (of_decide_eq_true rfl) (fun c_19 => ?_) (fun c_19 => ?_)
  · have hfn := (if_neg c_19).symm.trans hfn
    refine lv_aload_n hx hb dX12_number_32 rfl (lv_at hl 1 rfl) ?_
    obtain ⟨o_20, hqo_20, hfn⟩ := zb_s hfn
    refine zcVb (ci := 12) (rest := []) (pc' := 36) (ws' := [(h0, .inr (12, zO a0 (zI (zI (zI (zI b0 6 o_1.2.1) 7 o_1.2.2.1) 8 o_1.2.2.2.1) 9 o_1.2.2.2.2) c0)), zVi (a0 0) k1 1200 f1]) hP hK hD hS hA ⟨hx, hb, hml, hown, hts⟩ (zf_X12_goesWell l dC dI h0 a0 (zI (zI (zI (zI b0 6 o_1.2.1) 7 o_1.2.2.1) 8 o_1.2.2.2.1) 9 o_1.2.2.2.2) c0 o_20 hqo_20 H.size) (cwV 0 hts gX12_number_X12_goesWell rfl rfl rfl zhd_X12_goesWell ⟨Nat.le_of_ble_eq_true rfl, Nat.le_of_ble_eq_true rfl⟩) [0] rfl (of_decide_eq_true rfl) [] rfl rfl rfl rfl hl.1 rfl (Nat.le_of_ble_eq_true rfl) dX12_number_33 ⟨Nat.le_of_ble_eq_true rfl, Nat.le_of_ble_eq_true rfl⟩ [some 0] (of_decide_eq_true rfl) (of_decide_eq_true rfl) rfl rfl rfl (fun H locs hw_23n hP hD hS => ?_)
    refine lv_if_eq (tgt := 44) hx hb dX12_number_36 (of_decide_eq_true rfl) (fun c_24 => ?_) (fun c_24 => ?_)
    · have hfn := (if_pos c_24).symm.trans hfn
      refine lv_lconst (v := 0) hx hb dX12_number_44 (by decide +kernel) ?_
      have ho := Option.some.inj hfn
      subst ho
      exact zrl hx hb hr hK hP hD hS hQ rfl hlocks dX12_number_45
    have hfn := (if_neg c_24).symm.trans hfn
    refine lv_lload hx hb dX12_number_39 (lv_at hl 0 rfl) ?_
    refine lv_goto (tgt := 45) hx hb dX12_number_41 (of_decide_eq_true rfl) ?_
    have ho := Option.some.inj hfn
    subst ho
    exact zrl hx hb hr hK hP hD hS hQ rfl hlocks dX12_number_45
  have hfn := (if_pos c_19).symm.trans hfn
  refine lv_aload_n hx hb dX12_number_23 rfl (lv_at hl 1 rfl) ?_
  refine lv_iconst (v := 2) hx hb dX12_number_24 zci_2 ?_
  refine lv_aload_n hx hb dX12_number_25 rfl (lv_at hl 1 rfl) ?_
  refine va_get (D := (dC, dI)) (ci := 12) (v := .int o_1.2.2.1) (C := RX12) (T := TX12) (N := 67) hx hb hts zn_X12_number_X12 hown hK hP 0 rfl rfl 7 (of_decide_eq_true rfl) (hts (.fieldLink RX12 32 "ShortEnoughModel" "begun" "I") zw_X12_number_910) (fun _ h9 => h9) rfl dX12_number_26 ?_
  obtain ⟨o_25, hqo_25, hfn⟩ := zb_s hfn
  refine zcVv (ci := 12) (rest := []) (pc' := 32) (ws' := [(h0, .inr (12, zO a0 (zI (zI (zI (zI b0 6 o_1.2.1) 7 o_1.2.2.1) 8 o_25.1) 9 o_25.2) c0)), zVi (a0 0) k1 1200 f1]) hP hK hD hS hA ⟨hx, hb, hml, hown, hts⟩ (zf_X12_faults l dC dI h0 2 o_1.2.2.1 a0 (zI (zI (zI (zI b0 6 o_1.2.1) 7 o_1.2.2.1) 8 o_1.2.2.2.1) 9 o_1.2.2.2.2) c0 o_25 hqo_25 H.size) (cwV 2 hts gX12_number_X12_faults rfl rfl rfl zhd_X12_faults ⟨Nat.le_of_ble_eq_true rfl, Nat.le_of_ble_eq_true rfl⟩) [0] rfl (of_decide_eq_true rfl) [] rfl rfl rfl rfl hl.1 rfl (Nat.le_of_ble_eq_true rfl) dX12_number_29 ⟨Nat.le_of_ble_eq_true rfl, Nat.le_of_ble_eq_true rfl⟩ [some 0] (of_decide_eq_true rfl) (of_decide_eq_true rfl) rfl rfl rfl (fun H locs hP hD hS => ?_)
  refine lv_aload_n hx hb dX12_number_32 rfl (lv_at hl 1 rfl) ?_
  obtain ⟨o_29, hqo_29, hfn⟩ := zb_s hfn
  refine zcVb (ci := 12) (rest := []) (pc' := 36) (ws' := [(h0, .inr (12, zO a0 (zI (zI (zI (zI b0 6 o_1.2.1) 7 o_1.2.2.1) 8 o_25.1) 9 o_25.2) c0)), zVi (a0 0) k1 1200 f1]) hP hK hD hS hA ⟨hx, hb, hml, hown, hts⟩ (zf_X12_goesWell l dC dI h0 a0 (zI (zI (zI (zI b0 6 o_1.2.1) 7 o_1.2.2.1) 8 o_25.1) 9 o_25.2) c0 o_29 hqo_29 H.size) (cwV 0 hts gX12_number_X12_goesWell rfl rfl rfl zhd_X12_goesWell ⟨Nat.le_of_ble_eq_true rfl, Nat.le_of_ble_eq_true rfl⟩) [0] rfl (of_decide_eq_true rfl) [] rfl rfl rfl rfl hl.1 rfl (Nat.le_of_ble_eq_true rfl) dX12_number_33 ⟨Nat.le_of_ble_eq_true rfl, Nat.le_of_ble_eq_true rfl⟩ [some 0] (of_decide_eq_true rfl) (of_decide_eq_true rfl) rfl rfl rfl (fun H locs hw_32n hP hD hS => ?_)
  refine lv_if_eq (tgt := 44) hx hb dX12_number_36 (of_decide_eq_true rfl) (fun c_33 => ?_) (fun c_33 => ?_)
  · have hfn := (if_pos c_33).symm.trans hfn
    refine lv_lconst (v := 0) hx hb dX12_number_44 (by decide +kernel) ?_
    have ho := Option.some.inj hfn
    subst ho
    exact zrl hx hb hr hK hP hD hS hQ rfl hlocks dX12_number_45
  have hfn := (if_neg c_33).symm.trans hfn
  refine lv_lload hx hb dX12_number_39 (lv_at hl 0 rfl) ?_
  refine lv_goto (tgt := 45) hx hb dX12_number_41 (of_decide_eq_true rfl) ?_
  have ho := Option.some.inj hfn
  subst ho
  exact zrl hx hb hr hK hP hD hS hQ rfl hlocks dX12_number_45
theorem zn_X12_signed_X12 : ∀ w ∈ wsX120, w ∈ wsX12_signed := fun _ h => List.mem_cons_of_mem _ (List.mem_append_right _ h)
theorem zw_X12_signed_912 : Cond.fieldLink RX12 29 "ShortEnoughModel" "at" "I" ∈ wsX12_signed := List.mem_of_getElem? (i := 1) (by decide +kernel)
theorem zw_X12_signed_913 : Cond.fieldLink RX12 32 "ShortEnoughModel" "begun" "I" ∈ wsX12_signed := List.mem_of_getElem? (i := 2) (by decide +kernel)
set_option maxHeartbeats 4000000 in
set_option maxRecDepth 100000 in
theorem zf_X12_signed (l : Launch) (dC : Nat → ClassId) (dI : Nat → Nat → Nat) (h0 : Nat) (j1 : Int64) (j2 : Int64) (a0 : Nat → Nat) (b0 : Nat → Int32) (c0 : Nat → Int64) (k1 : Nat) (f1 : Nat → Int32) (o : Int64 × Int32 × Int32 × Int32 × Int32) (hfn : fn_X12_signed j1 j2 (b0 5) (b0 6) (b0 7) (b0 8) (b0 9) f1 = some o) (sz : Nat) : zMl l yX12_signed wsX12_signed ({ frames := 3, cells := 0, slots := 0, locals := 64 }) (dC, dI) vwCl [.ref h0, .long j1, .long j2] [(h0, .inr (12, zO a0 b0 c0)), zVi (a0 0) k1 1200 f1] [(k1, .int)] (fun r _ => r = o.1) [(h0, .inr (12, zO a0 (zI (zI (zI (zI b0 6 o.2.1) 7 o.2.2.1) 8 o.2.2.2.1) 9 o.2.2.2.2) c0)), zVi (a0 0) k1 1200 f1] [(k1, .int)] sz := by
  refine zgol (cc := cX12_signed) (maxL := 9) (ret := (some .long)) (C0 := RX12) (lv0 := [(0, .ref h0), (1, .long j1), (3, .long j2)]) zpl_X12 rfl rfl rfl (Nat.le_of_ble_eq_true rfl) ?_
  intro p e s m below meth c A ls Q hx hb hr hts hown hlocks hml hP hK hD hA hS hl hQ
  unfold fn_X12_signed at hfn
  refine lv_aload_n hx hb dX12_signed_0 rfl (lv_at hl 0 rfl) ?_
  obtain ⟨o_1, hqo_1, hfn⟩ := zb_s hfn
  refine zcVb (ci := 12) (rest := []) (pc' := 4) (ws' := [(h0, .inr (12, zO a0 b0 c0)), zVi (a0 0) k1 1200 f1]) hP hK hD hS hA ⟨hx, hb, hml, hown, hts⟩ (zf_X12_goesWell l dC dI h0 a0 b0 c0 o_1 hqo_1 s.heap.size) (cwV 0 hts gX12_signed_X12_goesWell rfl rfl rfl zhd_X12_goesWell ⟨Nat.le_of_ble_eq_true rfl, Nat.le_of_ble_eq_true rfl⟩) [0] rfl (of_decide_eq_true rfl) [] rfl rfl rfl rfl hl.1 rfl (Nat.le_of_ble_eq_true rfl) dX12_signed_1 ⟨Nat.le_of_ble_eq_true rfl, Nat.le_of_ble_eq_true rfl⟩ [some 0] (of_decide_eq_true rfl) (of_decide_eq_true rfl) rfl rfl rfl (fun H locs hw_4n hP hD hS => ?_)
  refine lv_if_ne (tgt := 9) hx hb dX12_signed_4 (of_decide_eq_true rfl) (fun c_5 => ?_) (fun c_5 => ?_)
  · have hfn := (if_neg c_5).symm.trans hfn
    refine lv_aload_n hx hb dX12_signed_9 rfl (lv_at hl 0 rfl) ?_
    obtain ⟨o_6, hqo_6, hfn⟩ := zb_s hfn
    refine zcVi (ci := 12) (rest := []) (pc' := 13) (ws' := [(h0, .inr (12, zO a0 (zI b0 6 o_6.2) c0)), zVi (a0 0) k1 1200 f1]) hP hK hD hS hA ⟨hx, hb, hml, hown, hts⟩ (zf_X12_here l dC dI h0 a0 b0 c0 k1 f1 o_6 hqo_6 H.size) (cwV 0 hts gX12_signed_X12_here rfl rfl rfl zhd_X12_here ⟨Nat.le_of_ble_eq_true rfl, Nat.le_of_ble_eq_true rfl⟩) [0, 1] rfl (of_decide_eq_true rfl) [0] rfl rfl rfl rfl hl.1 rfl (Nat.le_of_ble_eq_true rfl) dX12_signed_10 ⟨Nat.le_of_ble_eq_true rfl, Nat.le_of_ble_eq_true rfl⟩ [some 0, some 1] (of_decide_eq_true rfl) (of_decide_eq_true rfl) rfl rfl rfl (fun H locs hP hD hS => ?_)
    refine lv_bipush (v := 45) hx hb dX12_signed_13 zcb_45 ?_
    obtain ⟨j_10, ej_10, hfn⟩ := zj_g hfn
    have jp_10 : ∀ (s_10 : Int32) (H : Heap) (locs : List Loc) (ls : Array Slot), j_10 s_10 = some o → va_P (dC, dI) vwCl [(h0, .inr (12, zO a0 (zI b0 6 o_6.2) c0)), zVi (a0 0) k1 1200 f1] H → va_D A [(h0, .inr (12, zO a0 (zI b0 6 o_6.2) c0)), zVi (a0 0) k1 1200 f1] → va_S A s.heap H locs → lv_has ls 9 [(0, .ref h0), (1, .long j1), (3, .long j2)] → W p l e (headSpec wsX12_signed ({ frames := 3, cells := 0, slots := 0, locals := 64 })).room s m ([.ref h0, .long j1, .long j2] : List Value).toArray below meth c H locs 0 0 Q (F0 m 23 ls [.int s_10]) := by
      intro s_10 H locs ls hfn hP hD hS hl
      have hfn := zj_s ej_10 hfn
      refine lv_istore (lv' := [(5, .int s_10), (0, .ref h0), (1, .long j1), (3, .long j2)]) hx hb dX12_signed_23 hl (of_decide_eq_true rfl) rfl (fun ls hl => ?_)
      refine lv_aload_n hx hb dX12_signed_25 rfl (lv_at hl 1 rfl) ?_
      refine va_get (D := (dC, dI)) (ci := 12) (v := .int o_6.2) (C := RX12) (T := TX12) (N := 67) hx hb hts zn_X12_signed_X12 hown hK hP 0 rfl rfl 6 (of_decide_eq_true rfl) (hts (.fieldLink RX12 29 "ShortEnoughModel" "at" "I") zw_X12_signed_912) (fun _ h9 => h9) rfl dX12_signed_26 ?_
      refine lv_istore (lv' := [(6, .int o_6.2), (5, .int s_10), (0, .ref h0), (1, .long j1), (3, .long j2)]) hx hb dX12_signed_29 hl (of_decide_eq_true rfl) rfl (fun ls hl => ?_)
      refine lv_iload hx hb dX12_signed_31 (lv_at hl 1 rfl) ?_
      obtain ⟨j_11, ej_11, hfn⟩ := zj_g hfn
      have jp_11 : ∀ (s_11 : Int32) (H : Heap) (locs : List Loc) (ls : Array Slot), j_11 s_11 = some o → va_P (dC, dI) vwCl [(h0, .inr (12, zO a0 (zI b0 6 s_11) c0)), zVi (a0 0) k1 1200 f1] H → va_D A [(h0, .inr (12, zO a0 (zI b0 6 s_11) c0)), zVi (a0 0) k1 1200 f1] → va_S A s.heap H locs → lv_has ls 9 [(6, .int o_6.2), (5, .int s_10), (0, .ref h0), (1, .long j1), (3, .long j2)] → W p l e (headSpec wsX12_signed ({ frames := 3, cells := 0, slots := 0, locals := 64 })).room s m ([.ref h0, .long j1, .long j2] : List Value).toArray below meth c H locs 0 0 Q (F0 m 46 ls []) := by
        intro s_11 H locs ls hfn hP hD hS hl
        have hfn := zj_s ej_11 hfn
        refine lv_aload_n hx hb dX12_signed_46 rfl (lv_at hl 2 rfl) ?_
        obtain ⟨o_12, hqo_12, hfn⟩ := zb_s hfn
        refine zcVl (ci := 12) (rest := []) (pc' := 50) (ws' := [(h0, .inr (12, zO a0 (zI (zI (zI (zI b0 6 o_12.2.1) 7 o_12.2.2.1) 8 o_12.2.2.2.1) 9 o_12.2.2.2.2) c0)), zVi (a0 0) k1 1200 f1]) hP hK hD hS hA ⟨hx, hb, hml, hown, hts⟩ (zf_X12_digits l dC dI h0 a0 (zI b0 6 s_11) c0 k1 f1 o_12 hqo_12 H.size) (cwV 0 hts gX12_signed_X12_digits rfl rfl rfl zhd_X12_digits ⟨Nat.le_of_ble_eq_true rfl, Nat.le_of_ble_eq_true rfl⟩) [0, 1] rfl (of_decide_eq_true rfl) [0] rfl rfl rfl rfl hl.1 rfl (Nat.le_of_ble_eq_true rfl) dX12_signed_47 ⟨Nat.le_of_ble_eq_true rfl, Nat.le_of_ble_eq_true rfl⟩ [some 0, some 1] (of_decide_eq_true rfl) (of_decide_eq_true rfl) rfl rfl rfl (fun H locs hP hD hS => ?_)
        refine lv_lstore (lv' := [(7, .long o_12.1), (6, .int o_6.2), (5, .int s_10), (0, .ref h0), (1, .long j1), (3, .long j2)]) hx hb dX12_signed_50 hl (of_decide_eq_true rfl) rfl (fun ls hl => ?_)
        refine lv_iload hx hb dX12_signed_52 (lv_at hl 2 rfl) ?_
        obtain ⟨j_16, ej_16, hfn⟩ := zj_g hfn
        have jp_16 : ∀ (s_16 : Int64) (H : Heap) (locs : List Loc) (ls : Array Slot), j_16 s_16 = some o → va_P (dC, dI) vwCl [(h0, .inr (12, zO a0 (zI (zI (zI (zI b0 6 o_12.2.1) 7 o_12.2.2.1) 8 o_12.2.2.2.1) 9 o_12.2.2.2.2) c0)), zVi (a0 0) k1 1200 f1] H → va_D A [(h0, .inr (12, zO a0 (zI (zI (zI (zI b0 6 o_12.2.1) 7 o_12.2.2.1) 8 o_12.2.2.2.1) 9 o_12.2.2.2.2) c0)), zVi (a0 0) k1 1200 f1] → va_S A s.heap H locs → lv_has ls 9 [(6, .int o_6.2), (0, .ref h0), (1, .long j1), (3, .long j2)] → W p l e (headSpec wsX12_signed ({ frames := 3, cells := 0, slots := 0, locals := 64 })).room s m ([.ref h0, .long j1, .long j2] : List Value).toArray below meth c H locs 0 0 Q (F0 m 65 ls [.long s_16]) := by
          intro s_16 H locs ls hfn hP hD hS hl
          have hfn := zj_s ej_16 hfn
          refine lv_lstore (lv' := [(7, .long s_16), (6, .int o_6.2), (0, .ref h0), (1, .long j1), (3, .long j2)]) hx hb dX12_signed_65 hl (of_decide_eq_true rfl) rfl (fun ls hl => ?_)
          refine lv_aload_n hx hb dX12_signed_67 rfl (lv_at hl 2 rfl) ?_
          obtain ⟨o_17, hqo_17, hfn⟩ := zb_s hfn
          refine zcVb (ci := 12) (rest := []) (pc' := 71) (ws' := [(h0, .inr (12, zO a0 (zI (zI (zI (zI b0 6 o_12.2.1) 7 o_12.2.2.1) 8 o_12.2.2.2.1) 9 o_12.2.2.2.2) c0)), zVi (a0 0) k1 1200 f1]) hP hK hD hS hA ⟨hx, hb, hml, hown, hts⟩ (zf_X12_goesWell l dC dI h0 a0 (zI (zI (zI (zI b0 6 o_12.2.1) 7 o_12.2.2.1) 8 o_12.2.2.2.1) 9 o_12.2.2.2.2) c0 o_17 hqo_17 H.size) (cwV 0 hts gX12_signed_X12_goesWell rfl rfl rfl zhd_X12_goesWell ⟨Nat.le_of_ble_eq_true rfl, Nat.le_of_ble_eq_true rfl⟩) [0] rfl (of_decide_eq_true rfl) [] rfl rfl rfl rfl hl.1 rfl (Nat.le_of_ble_eq_true rfl) dX12_signed_68 ⟨Nat.le_of_ble_eq_true rfl, Nat.le_of_ble_eq_true rfl⟩ [some 0] (of_decide_eq_true rfl) (of_decide_eq_true rfl) rfl rfl rfl (fun H locs hw_20n hP hD hS => ?_)
          obtain ⟨j_21, ej_21, hfn⟩ := zj_g hfn
          have jp_21 : ∀ (s_21 : Int32 × Int32) (H : Heap) (locs : List Loc) (ls : Array Slot), j_21 s_21 = some o → va_P (dC, dI) vwCl [(h0, .inr (12, zO a0 (zI (zI (zI (zI b0 6 o_12.2.1) 7 o_12.2.2.1) 8 s_21.1) 9 s_21.2) c0)), zVi (a0 0) k1 1200 f1] H → va_D A [(h0, .inr (12, zO a0 (zI (zI (zI (zI b0 6 o_12.2.1) 7 o_12.2.2.1) 8 s_21.1) 9 s_21.2) c0)), zVi (a0 0) k1 1200 f1] → va_S A s.heap H locs → lv_has ls 9 [(7, .long s_16), (6, .int o_6.2), (0, .ref h0)] → W p l e (headSpec wsX12_signed ({ frames := 3, cells := 0, slots := 0, locals := 64 })).room s m ([.ref h0, .long j1, .long j2] : List Value).toArray below meth c H locs 0 0 Q (F0 m 91 ls []) := by
            intro s_21 H locs ls hfn hP hD hS hl
            have hfn := zj_s ej_21 hfn
            refine lv_aload_n hx hb dX12_signed_91 rfl (lv_at hl 2 rfl) ?_
            refine lv_iload hx hb dX12_signed_92 (lv_at hl 1 rfl) ?_
            refine va_put (D := (dC, dI)) (ci := 12) (v := .int o_6.2) (ty := .int) (C := RX12) (T := TX12) (N := 67) hx hb hts zn_X12_signed_X12 tyX12 tyX12_ok nmX12 hown hK hP hD hS 0 rfl rfl 7 (of_decide_eq_true rfl) (hts (.fieldLink RX12 32 "ShortEnoughModel" "begun" "I") zw_X12_signed_913) (fun _ h9 => h9) rfl (tyX12_ok 7 (of_decide_eq_true rfl)) rfl rfl (Nat.le_of_ble_eq_true rfl) dX12_signed_94 (fun H locs hP hD hS => ?_)
            have hP : va_P (dC, dI) vwCl [(h0, .inr (12, zO a0 (zI (zI (zI (zI b0 6 o_12.2.1) 7 o_6.2) 8 s_21.1) 9 s_21.2) c0)), zVi (a0 0) k1 1200 f1] H := hP
            have hD := zDW hD hP rfl
            refine lv_aload_n hx hb dX12_signed_97 rfl (lv_at hl 2 rfl) ?_
            obtain ⟨o_22, hqo_22, hfn⟩ := zb_s hfn
            refine zcVb (ci := 12) (rest := []) (pc' := 101) (ws' := [(h0, .inr (12, zO a0 (zI (zI (zI (zI b0 6 o_12.2.1) 7 o_6.2) 8 s_21.1) 9 s_21.2) c0)), zVi (a0 0) k1 1200 f1]) hP hK hD hS hA ⟨hx, hb, hml, hown, hts⟩ (zf_X12_goesWell l dC dI h0 a0 (zI (zI (zI (zI b0 6 o_12.2.1) 7 o_6.2) 8 s_21.1) 9 s_21.2) c0 o_22 hqo_22 H.size) (cwV 0 hts gX12_signed_X12_goesWell rfl rfl rfl zhd_X12_goesWell ⟨Nat.le_of_ble_eq_true rfl, Nat.le_of_ble_eq_true rfl⟩) [0] rfl (of_decide_eq_true rfl) [] rfl rfl rfl rfl hl.1 rfl (Nat.le_of_ble_eq_true rfl) dX12_signed_98 ⟨Nat.le_of_ble_eq_true rfl, Nat.le_of_ble_eq_true rfl⟩ [some 0] (of_decide_eq_true rfl) (of_decide_eq_true rfl) rfl rfl rfl (fun H locs hw_25n hP hD hS => ?_)
            refine lv_if_eq (tgt := 109) hx hb dX12_signed_101 (of_decide_eq_true rfl) (fun c_26 => ?_) (fun c_26 => ?_)
            · have hfn := (if_pos c_26).symm.trans hfn
              refine lv_lconst (v := 0) hx hb dX12_signed_109 (by decide +kernel) ?_
              have ho := Option.some.inj hfn
              subst ho
              exact zrl hx hb hr hK hP hD hS hQ rfl hlocks dX12_signed_110
            have hfn := (if_neg c_26).symm.trans hfn
            refine lv_lload hx hb dX12_signed_104 (lv_at hl 0 rfl) ?_
            refine lv_goto (tgt := 110) hx hb dX12_signed_106 (of_decide_eq_true rfl) ?_
            have ho := Option.some.inj hfn
            subst ho
            exact zrl hx hb hr hK hP hD hS hQ rfl hlocks dX12_signed_110
          refine lv_if_eq (tgt := 91) hx hb dX12_signed_71 (of_decide_eq_true rfl) (fun c_27 => ?_) (fun c_27 => ?_)
          · have hfn := (if_pos c_27).symm.trans hfn
            exact jp_21 (o_12.2.2.2.1, o_12.2.2.2.2) H locs ls hfn hP hD hS (lv_sub hl [0, 1, 2] rfl)
          have hfn := (if_neg c_27).symm.trans hfn
          refine lv_lload hx hb dX12_signed_74 (lv_at hl 0 rfl) ?_
          refine lv_lload_n hx hb dX12_signed_76 rfl (lv_at hl 3 rfl) ?_
          refine lv_lload_n hx hb dX12_signed_77 rfl (lv_at hl 4 rfl) ?_
          obtain ⟨o_28, hqo_28, hfn⟩ := zb_s hfn
          refine zcSb (rest := []) (pc' := 81) (ws' := [(h0, .inr (12, zO a0 (zI (zI (zI (zI b0 6 o_12.2.1) 7 o_12.2.2.1) 8 o_12.2.2.2.1) 9 o_12.2.2.2.2) c0)), zVi (a0 0) k1 1200 f1]) hP hK hD hS hA ⟨hx, hb, hml, hown, hts⟩ (zf_X12_isIn l dC dI s_16 j1 j2 o_28 hqo_28 H.size) (va_cwS 3 hts gX12_signed_X12_isIn rfl rfl rfl zhd_X12_isIn.2 ⟨Nat.le_of_ble_eq_true rfl, Nat.le_of_ble_eq_true rfl⟩) [] rfl (of_decide_eq_true rfl) [] rfl rfl hl.1 rfl (Nat.le_of_ble_eq_true rfl) dX12_signed_78 ⟨Nat.le_of_ble_eq_true rfl, Nat.le_of_ble_eq_true rfl⟩ [] (of_decide_eq_true rfl) (of_decide_eq_true rfl) rfl rfl rfl (fun H locs hw_31n hP hD hS => ?_)
          refine lv_if_ne (tgt := 91) hx hb dX12_signed_81 (of_decide_eq_true rfl) (fun c_32 => ?_) (fun c_32 => ?_)
          · have hfn := (if_neg c_32).symm.trans hfn
            exact jp_21 (o_12.2.2.2.1, o_12.2.2.2.2) H locs ls hfn hP hD hS (lv_sub hl [0, 1, 2] rfl)
          have hfn := (if_pos c_32).symm.trans hfn
          refine lv_aload_n hx hb dX12_signed_84 rfl (lv_at hl 2 rfl) ?_
          refine lv_iconst (v := 2) hx hb dX12_signed_85 zci_2 ?_
          refine lv_iload hx hb dX12_signed_86 (lv_at hl 1 rfl) ?_
          obtain ⟨o_33, hqo_33, hfn⟩ := zb_s hfn
          refine zcVv (ci := 12) (rest := []) (pc' := 91) (ws' := [(h0, .inr (12, zO a0 (zI (zI (zI (zI b0 6 o_12.2.1) 7 o_12.2.2.1) 8 o_33.1) 9 o_33.2) c0)), zVi (a0 0) k1 1200 f1]) hP hK hD hS hA ⟨hx, hb, hml, hown, hts⟩ (zf_X12_faults l dC dI h0 2 o_6.2 a0 (zI (zI (zI (zI b0 6 o_12.2.1) 7 o_12.2.2.1) 8 o_12.2.2.2.1) 9 o_12.2.2.2.2) c0 o_33 hqo_33 H.size) (cwV 2 hts gX12_signed_X12_faults rfl rfl rfl zhd_X12_faults ⟨Nat.le_of_ble_eq_true rfl, Nat.le_of_ble_eq_true rfl⟩) [0] rfl (of_decide_eq_true rfl) [] rfl rfl rfl rfl hl.1 rfl (Nat.le_of_ble_eq_true rfl) dX12_signed_88 ⟨Nat.le_of_ble_eq_true rfl, Nat.le_of_ble_eq_true rfl⟩ [some 0] (of_decide_eq_true rfl) (of_decide_eq_true rfl) rfl rfl rfl (fun H locs hP hD hS => ?_)
          exact jp_21 (o_33.1, o_33.2) H locs ls hfn hP hD hS (lv_sub hl [0, 1, 2] rfl)
        refine lv_if_eq (tgt := 63) hx hb dX12_signed_54 (of_decide_eq_true rfl) (fun c_37 => ?_) (fun c_37 => ?_)
        · have hfn := (if_pos c_37).symm.trans hfn
          refine lv_lload hx hb dX12_signed_63 (lv_at hl 0 rfl) ?_
          exact jp_16 o_12.1 H locs ls hfn hP hD hS (lv_sub hl [1, 3, 4, 5] rfl)
        have hfn := (if_neg c_37).symm.trans hfn
        refine lv_lload hx hb dX12_signed_57 (lv_at hl 0 rfl) ?_
        refine lv_lneg hx hb dX12_signed_59 ?_
        refine lv_goto (tgt := 65) hx hb dX12_signed_60 (of_decide_eq_true rfl) ?_
        exact jp_16 (-o_12.1) H locs ls hfn hP hD hS (lv_sub hl [1, 3, 4, 5] rfl)
      refine lv_if_eq (tgt := 46) hx hb dX12_signed_33 (of_decide_eq_true rfl) (fun c_38 => ?_) (fun c_38 => ?_)
      · have hfn := (if_pos c_38).symm.trans hfn
        exact jp_11 o_6.2 H locs ls hfn hP hD hS (lv_sub hl [0, 1, 2, 3, 4] rfl)
      have hfn := (if_neg c_38).symm.trans hfn
      refine lv_aload_n hx hb dX12_signed_36 rfl (lv_at hl 2 rfl) ?_
      refine lv_dup hx hb dX12_signed_37 rfl ?_
      refine va_get (D := (dC, dI)) (ci := 12) (v := .int o_6.2) (C := RX12) (T := TX12) (N := 67) hx hb hts zn_X12_signed_X12 hown hK hP 0 rfl rfl 6 (of_decide_eq_true rfl) (hts (.fieldLink RX12 29 "ShortEnoughModel" "at" "I") zw_X12_signed_912) (fun _ h9 => h9) rfl dX12_signed_38 ?_
      refine lv_iconst (v := 1) hx hb dX12_signed_41 zci_1 ?_
      refine lv_iadd hx hb dX12_signed_42 ?_
      refine va_put (D := (dC, dI)) (ci := 12) (v := .int (o_6.2 + 1)) (ty := .int) (C := RX12) (T := TX12) (N := 67) hx hb hts zn_X12_signed_X12 tyX12 tyX12_ok nmX12 hown hK hP hD hS 0 rfl rfl 6 (of_decide_eq_true rfl) (hts (.fieldLink RX12 29 "ShortEnoughModel" "at" "I") zw_X12_signed_912) (fun _ h9 => h9) rfl (tyX12_ok 6 (of_decide_eq_true rfl)) rfl rfl (Nat.le_of_ble_eq_true rfl) dX12_signed_43 (fun H locs hP hD hS => ?_)
      have hP : va_P (dC, dI) vwCl [(h0, .inr (12, zO a0 (zI b0 6 (o_6.2 + 1)) c0)), zVi (a0 0) k1 1200 f1] H := hP
      have hD := zDW hD hP rfl
      exact jp_11 (o_6.2 + 1) H locs ls hfn hP hD hS (lv_sub hl [0, 1, 2, 3, 4] rfl)
    refine lv_icmp_ne (tgt := 22) hx hb dX12_signed_15 (of_decide_eq_true rfl) (fun c_39 => ?_) (fun c_39 => ?_)
    · have hfn := (if_neg c_39).symm.trans hfn
      refine lv_iconst (v := 0) hx hb dX12_signed_22 zci_0 ?_
      exact jp_10 0 H locs ls hfn hP hD hS (lv_sub hl [0, 1, 2] rfl)
    have hfn := (if_pos c_39).symm.trans hfn
    refine lv_iconst (v := 1) hx hb dX12_signed_18 zci_1 ?_
    refine lv_goto (tgt := 23) hx hb dX12_signed_19 (of_decide_eq_true rfl) ?_
    exact jp_10 1 H locs ls hfn hP hD hS (lv_sub hl [0, 1, 2] rfl)
  have hfn := (if_pos c_5).symm.trans hfn
  refine lv_lconst (v := 0) hx hb dX12_signed_7 (by decide +kernel) ?_
  have ho := Option.some.inj hfn
  subst ho
  exact zrl hx hb hr hK hP hD hS hQ rfl hlocks dX12_signed_8
theorem zn_X12_f_X12 : ∀ w ∈ wsX120, w ∈ wsX12_f := fun _ h => List.mem_cons_of_mem _ (List.mem_append_right _ h)
theorem zw_X12_f_915 : Cond.fieldLink RX12 44 "ShortEnoughModel" "in" "I" ∈ wsX12_f := List.mem_of_getElem? (i := 1) (by decide +kernel)
set_option maxHeartbeats 4000000 in
set_option maxRecDepth 100000 in
theorem zf_X12_f (l : Launch) (dC : Nat → ClassId) (dI : Nat → Nat → Nat) (h0 : Nat) (p1 : Int32) (a0 : Nat → Nat) (b0 : Nat → Int32) (c0 : Nat → Int64) (o : Int32) (hfn : fn_X12_f p1 (b0 11) = some o) (sz : Nat) : zMi l yX12_f wsX12_f ({ frames := 0, cells := 0, slots := 0, locals := 0 }) (dC, dI) vwCl [.ref h0, .int p1] [(h0, .inr (12, zO a0 b0 c0))] [] (fun r _ => r = o) [(h0, .inr (12, zO a0 b0 c0))] [] sz := by
  refine zgoi (cc := cX12_f) (maxL := 2) (ret := (some .int)) (C0 := RX12) (lv0 := [(0, .ref h0), (1, .int p1)]) zpl_X12 rfl rfl rfl (Nat.le_of_ble_eq_true rfl) ?_
  intro p e s m below meth c A ls Q hx hb hr hts hown hlocks hml hP hK hD hA hS hl hQ
  unfold fn_X12_f at hfn
  refine lv_iconst (v := 4) hx hb dX12_f_0 zci_4 ?_
  refine lv_aload_n hx hb dX12_f_1 rfl (lv_at hl 0 rfl) ?_
  refine va_get (D := (dC, dI)) (ci := 12) (v := .int (b0 11)) (C := RX12) (T := TX12) (N := 67) hx hb hts zn_X12_f_X12 hown hK hP 0 rfl rfl 11 (of_decide_eq_true rfl) (hts (.fieldLink RX12 44 "ShortEnoughModel" "in" "I") zw_X12_f_915) (fun _ h9 => h9) rfl dX12_f_2 ?_
  refine lv_imul hx hb dX12_f_5 ?_
  refine lv_iload_n hx hb dX12_f_6 rfl (lv_at hl 1 rfl) ?_
  refine lv_iadd hx hb dX12_f_7 ?_
  have ho := Option.some.inj hfn
  subst ho
  exact zri hx hb hr hK hP hD hS hQ rfl hlocks dX12_f_8
theorem zn_X12_n_X12 : ∀ w ∈ wsX120, w ∈ wsX12_n := fun _ h => List.mem_cons_of_mem _ (List.mem_append_right _ h)
theorem zw_X12_n_917 : Cond.fieldLink RX12 44 "ShortEnoughModel" "in" "I" ∈ wsX12_n := List.mem_of_getElem? (i := 1) (by decide +kernel)
set_option maxHeartbeats 4000000 in
set_option maxRecDepth 100000 in
theorem zf_X12_n (l : Launch) (dC : Nat → ClassId) (dI : Nat → Nat → Nat) (h0 : Nat) (p1 : Int32) (a0 : Nat → Nat) (b0 : Nat → Int32) (c0 : Nat → Int64) (o : Int32) (hfn : fn_X12_n p1 (b0 11) = some o) (sz : Nat) : zMi l yX12_n wsX12_n ({ frames := 0, cells := 0, slots := 0, locals := 0 }) (dC, dI) vwCl [.ref h0, .int p1] [(h0, .inr (12, zO a0 b0 c0))] [] (fun r _ => r = o) [(h0, .inr (12, zO a0 b0 c0))] [] sz := by
  refine zgoi (cc := cX12_n) (maxL := 2) (ret := (some .int)) (C0 := RX12) (lv0 := [(0, .ref h0), (1, .int p1)]) zpl_X12 rfl rfl rfl (Nat.le_of_ble_eq_true rfl) ?_
  intro p e s m below meth c A ls Q hx hb hr hts hown hlocks hml hP hK hD hA hS hl hQ
  unfold fn_X12_n at hfn
  refine lv_bipush (v := 14) hx hb dX12_n_0 zcb_14 ?_
  refine lv_aload_n hx hb dX12_n_2 rfl (lv_at hl 0 rfl) ?_
  refine va_get (D := (dC, dI)) (ci := 12) (v := .int (b0 11)) (C := RX12) (T := TX12) (N := 67) hx hb hts zn_X12_n_X12 hown hK hP 0 rfl rfl 11 (of_decide_eq_true rfl) (hts (.fieldLink RX12 44 "ShortEnoughModel" "in" "I") zw_X12_n_917) (fun _ h9 => h9) rfl dX12_n_3 ?_
  refine lv_imul hx hb dX12_n_6 ?_
  refine lv_iload_n hx hb dX12_n_7 rfl (lv_at hl 1 rfl) ?_
  refine lv_iadd hx hb dX12_n_8 ?_
  have ho := Option.some.inj hfn
  subst ho
  exact zri hx hb hr hK hP hD hS hQ rfl hlocks dX12_n_9
theorem zn_X12_formatNamed_X12 : ∀ w ∈ wsX120, w ∈ wsX12_formatNamed := fun _ h => List.mem_cons_of_mem _ (List.mem_append_right _ h)
theorem zw_X12_formatNamed_919 : Cond.fieldLink RX12 47 "ShortEnoughModel" "formats" "[I" ∈ wsX12_formatNamed := List.mem_of_getElem? (i := 1) (by decide +kernel)
theorem zw_X12_formatNamed_920 : Cond.fieldLink RX12 44 "ShortEnoughModel" "in" "I" ∈ wsX12_formatNamed := List.mem_of_getElem? (i := 2) (by decide +kernel)
theorem zw_X12_formatNamed_921 : Cond.fieldLink RX12 50 "ShortEnoughModel" "formatName" "[I" ∈ wsX12_formatNamed := List.mem_of_getElem? (i := 3) (by decide +kernel)
set_option maxHeartbeats 4000000 in
set_option maxRecDepth 100000 in
theorem zf_X12_formatNamed (l : Launch) (dC : Nat → ClassId) (dI : Nat → Nat → Nat) (h0 : Nat) (p1 : Int32) (a0 : Nat → Nat) (b0 : Nat → Int32) (c0 : Nat → Int64) (k1 : Nat) (f1 : Nat → Int32) (k2 : Nat) (f2 : Nat → Int32) (o : Int32) (hfn : fn_X12_formatNamed p1 (b0 11) f1 f2 = some o) (sz : Nat) : zMi l yX12_formatNamed wsX12_formatNamed ({ frames := 1, cells := 0, slots := 0, locals := 21 }) (dC, dI) vwCl [.ref h0, .int p1] [(h0, .inr (12, zO a0 b0 c0)), zVi (a0 12) k1 2 f1, zVi (a0 13) k2 8 f2] [(k1, .int), (k2, .int)] (fun r _ => r = o) [(h0, .inr (12, zO a0 b0 c0)), zVi (a0 12) k1 2 f1, zVi (a0 13) k2 8 f2] [(k1, .int), (k2, .int)] sz := by
  refine zgoi (cc := cX12_formatNamed) (maxL := 3) (ret := (some .int)) (C0 := RX12) (lv0 := [(0, .ref h0), (1, .int p1)]) zpl_X12 rfl rfl rfl (Nat.le_of_ble_eq_true rfl) ?_
  intro p e s m below meth c A ls Q hx hb hr hts hown hlocks hml hP hK hD hA hS hl hQ
  unfold fn_X12_formatNamed at hfn
  refine lv_iconst (v := 0) hx hb dX12_formatNamed_0 zci_0 ?_
  refine lv_istore_n (lv' := [(2, .int 0), (0, .ref h0), (1, .int p1)]) hx hb dX12_formatNamed_1 rfl hl (of_decide_eq_true rfl) rfl (fun ls hl => ?_)
  obtain ⟨bd_1, ebd_1, hfn⟩ := zl_g hfn
  have lp_1 : ∀ (n : Nat) (s_1 : Int32) (H : Heap) (locs : List Loc) (ls : Array Slot), zl bd_1 n s_1 = some o → va_P (dC, dI) vwCl [(h0, .inr (12, zO a0 b0 c0)), zVi (a0 12) k1 2 f1, zVi (a0 13) k2 8 f2] H → va_D A [(h0, .inr (12, zO a0 b0 c0)), zVi (a0 12) k1 2 f1, zVi (a0 13) k2 8 f2] → va_S A s.heap H locs → lv_has ls 3 [(2, .int s_1), (0, .ref h0), (1, .int p1)] → W p l e (headSpec wsX12_formatNamed ({ frames := 1, cells := 0, slots := 0, locals := 21 })).room s m ([.ref h0, .int p1] : List Value).toArray below meth c H locs 0 0 Q (F0 m 2 ls []) := by
    intro n
    induction n with
    | zero => exact fun _ _ _ _ hfn => (zl_0 hfn).elim
    | succ n ih_1 =>
      intro s_1 H locs ls hfn hP hD hS hl
      have hfn := zl_s ebd_1 hfn
      refine lv_iload_n hx hb dX12_formatNamed_2 rfl (lv_at hl 0 rfl) ?_
      refine lv_aload_n hx hb dX12_formatNamed_3 rfl (lv_at hl 1 rfl) ?_
      refine va_get (D := (dC, dI)) (ci := 12) (v := .ref (a0 12)) (C := RX12) (T := TX12) (N := 67) hx hb hts zn_X12_formatNamed_X12 hown hK hP 0 rfl rfl 12 (of_decide_eq_true rfl) (hts (.fieldLink RX12 47 "ShortEnoughModel" "formats" "[I") zw_X12_formatNamed_919) (fun _ h9 => h9) rfl dX12_formatNamed_4 ?_
      refine lv_aload_n hx hb dX12_formatNamed_7 rfl (lv_at hl 1 rfl) ?_
      refine va_get (D := (dC, dI)) (ci := 12) (v := .int (b0 11)) (C := RX12) (T := TX12) (N := 67) hx hb hts zn_X12_formatNamed_X12 hown hK hP 0 rfl rfl 11 (of_decide_eq_true rfl) (hts (.fieldLink RX12 44 "ShortEnoughModel" "in" "I") zw_X12_formatNamed_920) (fun _ h9 => h9) rfl dX12_formatNamed_8 ?_
      obtain ⟨h_2, hfn⟩ := zg_s hfn
      refine va_iald hx hb hK hP 1 0 rfl rfl h_2 dX12_formatNamed_11 ?_
      refine lv_icmp_ge (tgt := 37) hx hb dX12_formatNamed_12 (of_decide_eq_true rfl) (fun c_3 => ?_) (fun c_3 => ?_)
      · have hfn := (if_pos c_3).symm.trans hfn
        refine lv_iconst (v := (-1)) hx hb dX12_formatNamed_37 zci_m1 ?_
        have ho := Option.some.inj hfn
        subst ho
        exact zri hx hb hr hK hP hD hS hQ rfl hlocks dX12_formatNamed_38
      have hfn := (if_neg c_3).symm.trans hfn
      refine lv_aload_n hx hb dX12_formatNamed_15 rfl (lv_at hl 1 rfl) ?_
      refine va_get (D := (dC, dI)) (ci := 12) (v := .ref (a0 13)) (C := RX12) (T := TX12) (N := 67) hx hb hts zn_X12_formatNamed_X12 hown hK hP 0 rfl rfl 13 (of_decide_eq_true rfl) (hts (.fieldLink RX12 50 "ShortEnoughModel" "formatName" "[I") zw_X12_formatNamed_921) (fun _ h9 => h9) rfl dX12_formatNamed_16 ?_
      refine lv_aload_n hx hb dX12_formatNamed_19 rfl (lv_at hl 1 rfl) ?_
      refine lv_iload_n hx hb dX12_formatNamed_20 rfl (lv_at hl 0 rfl) ?_
      obtain ⟨o_4, hqo_4, hfn⟩ := zb_s hfn
      refine zcVi (ci := 12) (rest := [.ref (a0 13)]) (pc' := 24) (ws' := [(h0, .inr (12, zO a0 b0 c0)), zVi (a0 12) k1 2 f1, zVi (a0 13) k2 8 f2]) hP hK hD hS hA ⟨hx, hb, hml, hown, hts⟩ (zf_X12_f l dC dI h0 s_1 a0 b0 c0 o_4 hqo_4 H.size) (cwV 1 hts gX12_formatNamed_X12_f rfl rfl rfl zhd_X12_f ⟨Nat.le_of_ble_eq_true rfl, Nat.le_of_ble_eq_true rfl⟩) [0] rfl (of_decide_eq_true rfl) [] rfl rfl rfl rfl hl.1 rfl (Nat.le_of_ble_eq_true rfl) dX12_formatNamed_21 ⟨Nat.le_of_ble_eq_true rfl, Nat.le_of_ble_eq_true rfl⟩ [some 0] (of_decide_eq_true rfl) (of_decide_eq_true rfl) rfl rfl rfl (fun H locs hP hD hS => ?_)
      obtain ⟨h_8, hfn⟩ := zg_s hfn
      refine va_iald hx hb hK hP 2 1 rfl rfl h_8 dX12_formatNamed_24 ?_
      refine lv_iload_n hx hb dX12_formatNamed_25 rfl (lv_at hl 2 rfl) ?_
      refine lv_icmp_ne (tgt := 31) hx hb dX12_formatNamed_26 (of_decide_eq_true rfl) (fun c_9 => ?_) (fun c_9 => ?_)
      · have hfn := (if_neg c_9).symm.trans hfn
        refine lv_iinc (v := (s_1 + 1)) (lv' := [(2, .int (s_1 + 1)), (0, .ref h0), (1, .int p1)]) hx hb dX12_formatNamed_31 hl (k := 0) rfl rfl (of_decide_eq_true rfl) rfl (fun ls hl => ?_)
        refine lv_goto (tgt := 2) hx hb dX12_formatNamed_34 (of_decide_eq_true rfl) ?_
        exact ih_1 (s_1 + 1) H locs ls hfn hP hD hS (lv_sub hl [0, 1, 2] rfl)
      have hfn := (if_pos c_9).symm.trans hfn
      refine lv_iload_n hx hb dX12_formatNamed_29 rfl (lv_at hl 0 rfl) ?_
      have ho := Option.some.inj hfn
      subst ho
      exact zri hx hb hr hK hP hD hS hQ rfl hlocks dX12_formatNamed_30
  exact lp_1 _ 0 s.heap [] ls hfn hP hD hS (lv_sub hl [0, 1, 2] rfl)
theorem zn_X12_numberNamed_X12 : ∀ w ∈ wsX120, w ∈ wsX12_numberNamed := fun _ h => List.mem_cons_of_mem _ (List.mem_append_right _ h)
theorem zw_X12_numberNamed_923 : Cond.fieldLink RX12 62 "ShortEnoughModel" "numbers" "[I" ∈ wsX12_numberNamed := List.mem_of_getElem? (i := 1) (by decide +kernel)
theorem zw_X12_numberNamed_924 : Cond.fieldLink RX12 44 "ShortEnoughModel" "in" "I" ∈ wsX12_numberNamed := List.mem_of_getElem? (i := 2) (by decide +kernel)
theorem zw_X12_numberNamed_925 : Cond.fieldLink RX12 65 "ShortEnoughModel" "numberName" "[I" ∈ wsX12_numberNamed := List.mem_of_getElem? (i := 3) (by decide +kernel)
set_option maxHeartbeats 4000000 in
set_option maxRecDepth 100000 in
theorem zf_X12_numberNamed (l : Launch) (dC : Nat → ClassId) (dI : Nat → Nat → Nat) (h0 : Nat) (p1 : Int32) (a0 : Nat → Nat) (b0 : Nat → Int32) (c0 : Nat → Int64) (k1 : Nat) (f1 : Nat → Int32) (k2 : Nat) (f2 : Nat → Int32) (o : Int32) (hfn : fn_X12_numberNamed p1 (b0 11) f1 f2 = some o) (sz : Nat) : zMi l yX12_numberNamed wsX12_numberNamed ({ frames := 1, cells := 0, slots := 0, locals := 21 }) (dC, dI) vwCl [.ref h0, .int p1] [(h0, .inr (12, zO a0 b0 c0)), zVi (a0 17) k1 2 f1, zVi (a0 18) k2 28 f2] [(k1, .int), (k2, .int)] (fun r _ => r = o) [(h0, .inr (12, zO a0 b0 c0)), zVi (a0 17) k1 2 f1, zVi (a0 18) k2 28 f2] [(k1, .int), (k2, .int)] sz := by
  refine zgoi (cc := cX12_numberNamed) (maxL := 3) (ret := (some .int)) (C0 := RX12) (lv0 := [(0, .ref h0), (1, .int p1)]) zpl_X12 rfl rfl rfl (Nat.le_of_ble_eq_true rfl) ?_
  intro p e s m below meth c A ls Q hx hb hr hts hown hlocks hml hP hK hD hA hS hl hQ
  unfold fn_X12_numberNamed at hfn
  refine lv_iconst (v := 0) hx hb dX12_numberNamed_0 zci_0 ?_
  refine lv_istore_n (lv' := [(2, .int 0), (0, .ref h0), (1, .int p1)]) hx hb dX12_numberNamed_1 rfl hl (of_decide_eq_true rfl) rfl (fun ls hl => ?_)
  obtain ⟨bd_1, ebd_1, hfn⟩ := zl_g hfn
  have lp_1 : ∀ (n : Nat) (s_1 : Int32) (H : Heap) (locs : List Loc) (ls : Array Slot), zl bd_1 n s_1 = some o → va_P (dC, dI) vwCl [(h0, .inr (12, zO a0 b0 c0)), zVi (a0 17) k1 2 f1, zVi (a0 18) k2 28 f2] H → va_D A [(h0, .inr (12, zO a0 b0 c0)), zVi (a0 17) k1 2 f1, zVi (a0 18) k2 28 f2] → va_S A s.heap H locs → lv_has ls 3 [(2, .int s_1), (0, .ref h0), (1, .int p1)] → W p l e (headSpec wsX12_numberNamed ({ frames := 1, cells := 0, slots := 0, locals := 21 })).room s m ([.ref h0, .int p1] : List Value).toArray below meth c H locs 0 0 Q (F0 m 2 ls []) := by
    intro n
    induction n with
    | zero => exact fun _ _ _ _ hfn => (zl_0 hfn).elim
    | succ n ih_1 =>
      intro s_1 H locs ls hfn hP hD hS hl
      have hfn := zl_s ebd_1 hfn
      refine lv_iload_n hx hb dX12_numberNamed_2 rfl (lv_at hl 0 rfl) ?_
      refine lv_aload_n hx hb dX12_numberNamed_3 rfl (lv_at hl 1 rfl) ?_
      refine va_get (D := (dC, dI)) (ci := 12) (v := .ref (a0 17)) (C := RX12) (T := TX12) (N := 67) hx hb hts zn_X12_numberNamed_X12 hown hK hP 0 rfl rfl 17 (of_decide_eq_true rfl) (hts (.fieldLink RX12 62 "ShortEnoughModel" "numbers" "[I") zw_X12_numberNamed_923) (fun _ h9 => h9) rfl dX12_numberNamed_4 ?_
      refine lv_aload_n hx hb dX12_numberNamed_7 rfl (lv_at hl 1 rfl) ?_
      refine va_get (D := (dC, dI)) (ci := 12) (v := .int (b0 11)) (C := RX12) (T := TX12) (N := 67) hx hb hts zn_X12_numberNamed_X12 hown hK hP 0 rfl rfl 11 (of_decide_eq_true rfl) (hts (.fieldLink RX12 44 "ShortEnoughModel" "in" "I") zw_X12_numberNamed_924) (fun _ h9 => h9) rfl dX12_numberNamed_8 ?_
      obtain ⟨h_2, hfn⟩ := zg_s hfn
      refine va_iald hx hb hK hP 1 0 rfl rfl h_2 dX12_numberNamed_11 ?_
      refine lv_icmp_ge (tgt := 37) hx hb dX12_numberNamed_12 (of_decide_eq_true rfl) (fun c_3 => ?_) (fun c_3 => ?_)
      · have hfn := (if_pos c_3).symm.trans hfn
        refine lv_iconst (v := (-1)) hx hb dX12_numberNamed_37 zci_m1 ?_
        have ho := Option.some.inj hfn
        subst ho
        exact zri hx hb hr hK hP hD hS hQ rfl hlocks dX12_numberNamed_38
      have hfn := (if_neg c_3).symm.trans hfn
      refine lv_aload_n hx hb dX12_numberNamed_15 rfl (lv_at hl 1 rfl) ?_
      refine va_get (D := (dC, dI)) (ci := 12) (v := .ref (a0 18)) (C := RX12) (T := TX12) (N := 67) hx hb hts zn_X12_numberNamed_X12 hown hK hP 0 rfl rfl 18 (of_decide_eq_true rfl) (hts (.fieldLink RX12 65 "ShortEnoughModel" "numberName" "[I") zw_X12_numberNamed_925) (fun _ h9 => h9) rfl dX12_numberNamed_16 ?_
      refine lv_aload_n hx hb dX12_numberNamed_19 rfl (lv_at hl 1 rfl) ?_
      refine lv_iload_n hx hb dX12_numberNamed_20 rfl (lv_at hl 0 rfl) ?_
      obtain ⟨o_4, hqo_4, hfn⟩ := zb_s hfn
      refine zcVi (ci := 12) (rest := [.ref (a0 18)]) (pc' := 24) (ws' := [(h0, .inr (12, zO a0 b0 c0)), zVi (a0 17) k1 2 f1, zVi (a0 18) k2 28 f2]) hP hK hD hS hA ⟨hx, hb, hml, hown, hts⟩ (zf_X12_n l dC dI h0 s_1 a0 b0 c0 o_4 hqo_4 H.size) (cwV 1 hts gX12_numberNamed_X12_n rfl rfl rfl zhd_X12_n ⟨Nat.le_of_ble_eq_true rfl, Nat.le_of_ble_eq_true rfl⟩) [0] rfl (of_decide_eq_true rfl) [] rfl rfl rfl rfl hl.1 rfl (Nat.le_of_ble_eq_true rfl) dX12_numberNamed_21 ⟨Nat.le_of_ble_eq_true rfl, Nat.le_of_ble_eq_true rfl⟩ [some 0] (of_decide_eq_true rfl) (of_decide_eq_true rfl) rfl rfl rfl (fun H locs hP hD hS => ?_)
      obtain ⟨h_8, hfn⟩ := zg_s hfn
      refine va_iald hx hb hK hP 2 1 rfl rfl h_8 dX12_numberNamed_24 ?_
      refine lv_iload_n hx hb dX12_numberNamed_25 rfl (lv_at hl 2 rfl) ?_
      refine lv_icmp_ne (tgt := 31) hx hb dX12_numberNamed_26 (of_decide_eq_true rfl) (fun c_9 => ?_) (fun c_9 => ?_)
      · have hfn := (if_neg c_9).symm.trans hfn
        refine lv_iinc (v := (s_1 + 1)) (lv' := [(2, .int (s_1 + 1)), (0, .ref h0), (1, .int p1)]) hx hb dX12_numberNamed_31 hl (k := 0) rfl rfl (of_decide_eq_true rfl) rfl (fun ls hl => ?_)
        refine lv_goto (tgt := 2) hx hb dX12_numberNamed_34 (of_decide_eq_true rfl) ?_
        exact ih_1 (s_1 + 1) H locs ls hfn hP hD hS (lv_sub hl [0, 1, 2] rfl)
      have hfn := (if_pos c_9).symm.trans hfn
      refine lv_iload_n hx hb dX12_numberNamed_29 rfl (lv_at hl 0 rfl) ?_
      have ho := Option.some.inj hfn
      subst ho
      exact zri hx hb hr hK hP hD hS hQ rfl hlocks dX12_numberNamed_30
  exact lp_1 _ 0 s.heap [] ls hfn hP hD hS (lv_sub hl [0, 1, 2] rfl)
theorem zn_X12_newName_X12 : ∀ w ∈ wsX120, w ∈ wsX12_newName := fun _ h => List.mem_cons_of_mem _ (List.mem_append_right _ h)
theorem zw_X12_newName_927 : Cond.fieldLink RX12 32 "ShortEnoughModel" "begun" "I" ∈ wsX12_newName := List.mem_of_getElem? (i := 1) (by decide +kernel)
set_option maxHeartbeats 4000000 in
set_option maxRecDepth 100000 in
theorem zf_X12_newName (l : Launch) (dC : Nat → ClassId) (dI : Nat → Nat → Nat) (h0 : Nat) (a0 : Nat → Nat) (b0 : Nat → Int32) (c0 : Nat → Int64) (k1 : Nat) (f1 : Nat → Int32) (k2 : Nat) (f2 : Nat → Int32) (k3 : Nat) (f3 : Nat → Int32) (k4 : Nat) (f4 : Nat → Int32) (k5 : Nat) (f5 : Nat → Int32) (k6 : Nat) (f6 : Nat → Int32) (o : Int32 × Int32 × Int32 × Int32 × Int32) (hfn : fn_X12_newName (b0 5) (b0 6) (b0 7) (b0 8) (b0 9) (b0 11) f1 f2 f3 f4 f5 f6 = some o) (sz : Nat) : zMi l yX12_newName wsX12_newName ({ frames := 4, cells := 0, slots := 0, locals := 84 }) (dC, dI) vwCl [.ref h0] [(h0, .inr (12, zO a0 b0 c0)), zVi (a0 0) k1 1200 f1, zVi (a0 10) k2 71 f2, zVi (a0 12) k3 2 f3, zVi (a0 13) k4 8 f4, zVi (a0 17) k5 2 f5, zVi (a0 18) k6 28 f6] [(k1, .int), (k2, .int), (k3, .int), (k4, .int), (k5, .int), (k6, .int)] (fun r _ => r = o.1) [(h0, .inr (12, zO a0 (zI (zI (zI (zI b0 6 o.2.1) 7 o.2.2.1) 8 o.2.2.2.1) 9 o.2.2.2.2) c0)), zVi (a0 0) k1 1200 f1, zVi (a0 10) k2 71 f2, zVi (a0 12) k3 2 f3, zVi (a0 13) k4 8 f4, zVi (a0 17) k5 2 f5, zVi (a0 18) k6 28 f6] [(k1, .int), (k2, .int), (k3, .int), (k4, .int), (k5, .int), (k6, .int)] sz := by
  refine zgoi (cc := cX12_newName) (maxL := 2) (ret := (some .int)) (C0 := RX12) (lv0 := [(0, .ref h0)]) zpl_X12 rfl rfl rfl (Nat.le_of_ble_eq_true rfl) ?_
  intro p e s m below meth c A ls Q hx hb hr hts hown hlocks hml hP hK hD hA hS hl hQ
  unfold fn_X12_newName at hfn
  refine lv_aload_n hx hb dX12_newName_0 rfl (lv_at hl 0 rfl) ?_
  obtain ⟨o_1, hqo_1, hfn⟩ := zb_s hfn
  refine zcVi (ci := 12) (rest := []) (pc' := 4) (ws' := [(h0, .inr (12, zO a0 (zI (zI (zI (zI b0 6 o_1.2.1) 7 o_1.2.2.1) 8 o_1.2.2.2.1) 9 o_1.2.2.2.2) c0)), zVi (a0 0) k1 1200 f1, zVi (a0 10) k2 71 f2, zVi (a0 12) k3 2 f3, zVi (a0 13) k4 8 f4, zVi (a0 17) k5 2 f5, zVi (a0 18) k6 28 f6]) hP hK hD hS hA ⟨hx, hb, hml, hown, hts⟩ (zf_X12_name l dC dI h0 a0 b0 c0 k1 f1 k2 f2 o_1 hqo_1 s.heap.size) (cwV 0 hts gX12_newName_X12_name rfl rfl rfl zhd_X12_name ⟨Nat.le_of_ble_eq_true rfl, Nat.le_of_ble_eq_true rfl⟩) [0, 1, 2] rfl (of_decide_eq_true rfl) [0, 1] rfl rfl rfl rfl hl.1 rfl (Nat.le_of_ble_eq_true rfl) dX12_newName_1 ⟨Nat.le_of_ble_eq_true rfl, Nat.le_of_ble_eq_true rfl⟩ [some 0, some 1, some 2] (of_decide_eq_true rfl) (of_decide_eq_true rfl) rfl rfl rfl (fun H locs hP hD hS => ?_)
  refine lv_istore_n (lv' := [(1, .int o_1.1), (0, .ref h0)]) hx hb dX12_newName_4 rfl hl (of_decide_eq_true rfl) rfl (fun ls hl => ?_)
  refine lv_aload_n hx hb dX12_newName_5 rfl (lv_at hl 1 rfl) ?_
  obtain ⟨o_5, hqo_5, hfn⟩ := zb_s hfn
  refine zcVb (ci := 12) (rest := []) (pc' := 9) (ws' := [(h0, .inr (12, zO a0 (zI (zI (zI (zI b0 6 o_1.2.1) 7 o_1.2.2.1) 8 o_1.2.2.2.1) 9 o_1.2.2.2.2) c0)), zVi (a0 0) k1 1200 f1, zVi (a0 10) k2 71 f2, zVi (a0 12) k3 2 f3, zVi (a0 13) k4 8 f4, zVi (a0 17) k5 2 f5, zVi (a0 18) k6 28 f6]) hP hK hD hS hA ⟨hx, hb, hml, hown, hts⟩ (zf_X12_goesWell l dC dI h0 a0 (zI (zI (zI (zI b0 6 o_1.2.1) 7 o_1.2.2.1) 8 o_1.2.2.2.1) 9 o_1.2.2.2.2) c0 o_5 hqo_5 H.size) (cwV 0 hts gX12_newName_X12_goesWell rfl rfl rfl zhd_X12_goesWell ⟨Nat.le_of_ble_eq_true rfl, Nat.le_of_ble_eq_true rfl⟩) [0] rfl (of_decide_eq_true rfl) [] rfl rfl rfl rfl hl.1 rfl (Nat.le_of_ble_eq_true rfl) dX12_newName_6 ⟨Nat.le_of_ble_eq_true rfl, Nat.le_of_ble_eq_true rfl⟩ [some 0] (of_decide_eq_true rfl) (of_decide_eq_true rfl) rfl rfl rfl (fun H locs hw_8n hP hD hS => ?_)
  refine lv_if_eq (tgt := 39) hx hb dX12_newName_9 (of_decide_eq_true rfl) (fun c_9 => ?_) (fun c_9 => ?_)
  · have hfn := (if_pos c_9).symm.trans hfn
    refine lv_iload_n hx hb dX12_newName_39 rfl (lv_at hl 0 rfl) ?_
    have ho := Option.some.inj hfn
    subst ho
    exact zri hx hb hr hK hP hD hS hQ rfl hlocks dX12_newName_40
  have hfn := (if_neg c_9).symm.trans hfn
  refine lv_aload_n hx hb dX12_newName_12 rfl (lv_at hl 1 rfl) ?_
  refine lv_iload_n hx hb dX12_newName_13 rfl (lv_at hl 0 rfl) ?_
  obtain ⟨o_10, hqo_10, hfn⟩ := zb_s hfn
  refine zcVi (ci := 12) (rest := []) (pc' := 17) (ws' := [(h0, .inr (12, zO a0 (zI (zI (zI (zI b0 6 o_1.2.1) 7 o_1.2.2.1) 8 o_1.2.2.2.1) 9 o_1.2.2.2.2) c0)), zVi (a0 0) k1 1200 f1, zVi (a0 10) k2 71 f2, zVi (a0 12) k3 2 f3, zVi (a0 13) k4 8 f4, zVi (a0 17) k5 2 f5, zVi (a0 18) k6 28 f6]) hP hK hD hS hA ⟨hx, hb, hml, hown, hts⟩ (zf_X12_formatNamed l dC dI h0 o_1.1 a0 (zI (zI (zI (zI b0 6 o_1.2.1) 7 o_1.2.2.1) 8 o_1.2.2.2.1) 9 o_1.2.2.2.2) c0 k3 f3 k4 f4 o_10 hqo_10 H.size) (cwV 1 hts gX12_newName_X12_formatNamed rfl rfl rfl zhd_X12_formatNamed ⟨Nat.le_of_ble_eq_true rfl, Nat.le_of_ble_eq_true rfl⟩) [0, 3, 4] rfl (of_decide_eq_true rfl) [2, 3] rfl rfl rfl rfl hl.1 rfl (Nat.le_of_ble_eq_true rfl) dX12_newName_14 ⟨Nat.le_of_ble_eq_true rfl, Nat.le_of_ble_eq_true rfl⟩ [some 0, none, none, some 1, some 2] (of_decide_eq_true rfl) (of_decide_eq_true rfl) rfl rfl rfl (fun H locs hP hD hS => ?_)
  refine lv_iconst (v := (-1)) hx hb dX12_newName_17 zci_m1 ?_
  refine lv_icmp_ne (tgt := 30) hx hb dX12_newName_18 (of_decide_eq_true rfl) (fun c_14 => ?_) (fun c_14 => ?_)
  · have hfn := (if_neg c_14).symm.trans hfn
    refine lv_aload_n hx hb dX12_newName_30 rfl (lv_at hl 1 rfl) ?_
    refine lv_iconst (v := 3) hx hb dX12_newName_31 zci_3 ?_
    refine lv_aload_n hx hb dX12_newName_32 rfl (lv_at hl 1 rfl) ?_
    refine va_get (D := (dC, dI)) (ci := 12) (v := .int o_1.2.2.1) (C := RX12) (T := TX12) (N := 67) hx hb hts zn_X12_newName_X12 hown hK hP 0 rfl rfl 7 (of_decide_eq_true rfl) (hts (.fieldLink RX12 32 "ShortEnoughModel" "begun" "I") zw_X12_newName_927) (fun _ h9 => h9) rfl dX12_newName_33 ?_
    obtain ⟨o_15, hqo_15, hfn⟩ := zb_s hfn
    refine zcVv (ci := 12) (rest := []) (pc' := 39) (ws' := [(h0, .inr (12, zO a0 (zI (zI (zI (zI b0 6 o_1.2.1) 7 o_1.2.2.1) 8 o_15.1) 9 o_15.2) c0)), zVi (a0 0) k1 1200 f1, zVi (a0 10) k2 71 f2, zVi (a0 12) k3 2 f3, zVi (a0 13) k4 8 f4, zVi (a0 17) k5 2 f5, zVi (a0 18) k6 28 f6]) hP hK hD hS hA ⟨hx, hb, hml, hown, hts⟩ (zf_X12_faults l dC dI h0 3 o_1.2.2.1 a0 (zI (zI (zI (zI b0 6 o_1.2.1) 7 o_1.2.2.1) 8 o_1.2.2.2.1) 9 o_1.2.2.2.2) c0 o_15 hqo_15 H.size) (cwV 2 hts gX12_newName_X12_faults rfl rfl rfl zhd_X12_faults ⟨Nat.le_of_ble_eq_true rfl, Nat.le_of_ble_eq_true rfl⟩) [0] rfl (of_decide_eq_true rfl) [] rfl rfl rfl rfl hl.1 rfl (Nat.le_of_ble_eq_true rfl) dX12_newName_36 ⟨Nat.le_of_ble_eq_true rfl, Nat.le_of_ble_eq_true rfl⟩ [some 0] (of_decide_eq_true rfl) (of_decide_eq_true rfl) rfl rfl rfl (fun H locs hP hD hS => ?_)
    refine lv_iload_n hx hb dX12_newName_39 rfl (lv_at hl 0 rfl) ?_
    have ho := Option.some.inj hfn
    subst ho
    exact zri hx hb hr hK hP hD hS hQ rfl hlocks dX12_newName_40
  have hfn := (if_pos c_14).symm.trans hfn
  refine lv_aload_n hx hb dX12_newName_21 rfl (lv_at hl 1 rfl) ?_
  refine lv_iload_n hx hb dX12_newName_22 rfl (lv_at hl 0 rfl) ?_
  obtain ⟨o_19, hqo_19, hfn⟩ := zb_s hfn
  refine zcVi (ci := 12) (rest := []) (pc' := 26) (ws' := [(h0, .inr (12, zO a0 (zI (zI (zI (zI b0 6 o_1.2.1) 7 o_1.2.2.1) 8 o_1.2.2.2.1) 9 o_1.2.2.2.2) c0)), zVi (a0 0) k1 1200 f1, zVi (a0 10) k2 71 f2, zVi (a0 12) k3 2 f3, zVi (a0 13) k4 8 f4, zVi (a0 17) k5 2 f5, zVi (a0 18) k6 28 f6]) hP hK hD hS hA ⟨hx, hb, hml, hown, hts⟩ (zf_X12_numberNamed l dC dI h0 o_1.1 a0 (zI (zI (zI (zI b0 6 o_1.2.1) 7 o_1.2.2.1) 8 o_1.2.2.2.1) 9 o_1.2.2.2.2) c0 k5 f5 k6 f6 o_19 hqo_19 H.size) (cwV 1 hts gX12_newName_X12_numberNamed rfl rfl rfl zhd_X12_numberNamed ⟨Nat.le_of_ble_eq_true rfl, Nat.le_of_ble_eq_true rfl⟩) [0, 5, 6] rfl (of_decide_eq_true rfl) [4, 5] rfl rfl rfl rfl hl.1 rfl (Nat.le_of_ble_eq_true rfl) dX12_newName_23 ⟨Nat.le_of_ble_eq_true rfl, Nat.le_of_ble_eq_true rfl⟩ [some 0, none, none, none, none, some 1, some 2] (of_decide_eq_true rfl) (of_decide_eq_true rfl) rfl rfl rfl (fun H locs hP hD hS => ?_)
  refine lv_iconst (v := (-1)) hx hb dX12_newName_26 zci_m1 ?_
  refine lv_icmp_eq (tgt := 39) hx hb dX12_newName_27 (of_decide_eq_true rfl) (fun c_23 => ?_) (fun c_23 => ?_)
  · have hfn := (if_pos c_23).symm.trans hfn
    refine lv_iload_n hx hb dX12_newName_39 rfl (lv_at hl 0 rfl) ?_
    have ho := Option.some.inj hfn
    subst ho
    exact zri hx hb hr hK hP hD hS hQ rfl hlocks dX12_newName_40
  have hfn := (if_neg c_23).symm.trans hfn
  refine lv_aload_n hx hb dX12_newName_30 rfl (lv_at hl 1 rfl) ?_
  refine lv_iconst (v := 3) hx hb dX12_newName_31 zci_3 ?_
  refine lv_aload_n hx hb dX12_newName_32 rfl (lv_at hl 1 rfl) ?_
  refine va_get (D := (dC, dI)) (ci := 12) (v := .int o_1.2.2.1) (C := RX12) (T := TX12) (N := 67) hx hb hts zn_X12_newName_X12 hown hK hP 0 rfl rfl 7 (of_decide_eq_true rfl) (hts (.fieldLink RX12 32 "ShortEnoughModel" "begun" "I") zw_X12_newName_927) (fun _ h9 => h9) rfl dX12_newName_33 ?_
  obtain ⟨o_24, hqo_24, hfn⟩ := zb_s hfn
  refine zcVv (ci := 12) (rest := []) (pc' := 39) (ws' := [(h0, .inr (12, zO a0 (zI (zI (zI (zI b0 6 o_1.2.1) 7 o_1.2.2.1) 8 o_24.1) 9 o_24.2) c0)), zVi (a0 0) k1 1200 f1, zVi (a0 10) k2 71 f2, zVi (a0 12) k3 2 f3, zVi (a0 13) k4 8 f4, zVi (a0 17) k5 2 f5, zVi (a0 18) k6 28 f6]) hP hK hD hS hA ⟨hx, hb, hml, hown, hts⟩ (zf_X12_faults l dC dI h0 3 o_1.2.2.1 a0 (zI (zI (zI (zI b0 6 o_1.2.1) 7 o_1.2.2.1) 8 o_1.2.2.2.1) 9 o_1.2.2.2.2) c0 o_24 hqo_24 H.size) (cwV 2 hts gX12_newName_X12_faults rfl rfl rfl zhd_X12_faults ⟨Nat.le_of_ble_eq_true rfl, Nat.le_of_ble_eq_true rfl⟩) [0] rfl (of_decide_eq_true rfl) [] rfl rfl rfl rfl hl.1 rfl (Nat.le_of_ble_eq_true rfl) dX12_newName_36 ⟨Nat.le_of_ble_eq_true rfl, Nat.le_of_ble_eq_true rfl⟩ [some 0] (of_decide_eq_true rfl) (of_decide_eq_true rfl) rfl rfl rfl (fun H locs hP hD hS => ?_)
  refine lv_iload_n hx hb dX12_newName_39 rfl (lv_at hl 0 rfl) ?_
  have ho := Option.some.inj hfn
  subst ho
  exact zri hx hb hr hK hP hD hS hQ rfl hlocks dX12_newName_40
theorem zn_X12_toldNumber_X12 : ∀ w ∈ wsX120, w ∈ wsX12_toldNumber := fun _ h => List.mem_cons_of_mem _ (List.mem_append_right _ h)
theorem zw_X12_toldNumber_929 : Cond.fieldLink RX12 32 "ShortEnoughModel" "begun" "I" ∈ wsX12_toldNumber := List.mem_of_getElem? (i := 1) (by decide +kernel)
set_option maxHeartbeats 4000000 in
set_option maxRecDepth 100000 in
theorem zf_X12_toldNumber (l : Launch) (dC : Nat → ClassId) (dI : Nat → Nat → Nat) (h0 : Nat) (a0 : Nat → Nat) (b0 : Nat → Int32) (c0 : Nat → Int64) (k1 : Nat) (f1 : Nat → Int32) (k2 : Nat) (f2 : Nat → Int32) (k3 : Nat) (f3 : Nat → Int32) (k4 : Nat) (f4 : Nat → Int32) (o : Int32 × Int32 × Int32 × Int32 × Int32) (hfn : fn_X12_toldNumber (b0 5) (b0 6) (b0 7) (b0 8) (b0 9) (b0 11) f1 f2 f3 f4 = some o) (sz : Nat) : zMi l yX12_toldNumber wsX12_toldNumber ({ frames := 4, cells := 0, slots := 0, locals := 84 }) (dC, dI) vwCl [.ref h0] [(h0, .inr (12, zO a0 b0 c0)), zVi (a0 0) k1 1200 f1, zVi (a0 10) k2 71 f2, zVi (a0 17) k3 2 f3, zVi (a0 18) k4 28 f4] [(k1, .int), (k2, .int), (k3, .int), (k4, .int)] (fun r _ => r = o.1) [(h0, .inr (12, zO a0 (zI (zI (zI (zI b0 6 o.2.1) 7 o.2.2.1) 8 o.2.2.2.1) 9 o.2.2.2.2) c0)), zVi (a0 0) k1 1200 f1, zVi (a0 10) k2 71 f2, zVi (a0 17) k3 2 f3, zVi (a0 18) k4 28 f4] [(k1, .int), (k2, .int), (k3, .int), (k4, .int)] sz := by
  refine zgoi (cc := cX12_toldNumber) (maxL := 3) (ret := (some .int)) (C0 := RX12) (lv0 := [(0, .ref h0)]) zpl_X12 rfl rfl rfl (Nat.le_of_ble_eq_true rfl) ?_
  intro p e s m below meth c A ls Q hx hb hr hts hown hlocks hml hP hK hD hA hS hl hQ
  unfold fn_X12_toldNumber at hfn
  refine lv_aload_n hx hb dX12_toldNumber_0 rfl (lv_at hl 0 rfl) ?_
  obtain ⟨o_1, hqo_1, hfn⟩ := zb_s hfn
  refine zcVi (ci := 12) (rest := []) (pc' := 4) (ws' := [(h0, .inr (12, zO a0 (zI (zI (zI (zI b0 6 o_1.2.1) 7 o_1.2.2.1) 8 o_1.2.2.2.1) 9 o_1.2.2.2.2) c0)), zVi (a0 0) k1 1200 f1, zVi (a0 10) k2 71 f2, zVi (a0 17) k3 2 f3, zVi (a0 18) k4 28 f4]) hP hK hD hS hA ⟨hx, hb, hml, hown, hts⟩ (zf_X12_name l dC dI h0 a0 b0 c0 k1 f1 k2 f2 o_1 hqo_1 s.heap.size) (cwV 0 hts gX12_toldNumber_X12_name rfl rfl rfl zhd_X12_name ⟨Nat.le_of_ble_eq_true rfl, Nat.le_of_ble_eq_true rfl⟩) [0, 1, 2] rfl (of_decide_eq_true rfl) [0, 1] rfl rfl rfl rfl hl.1 rfl (Nat.le_of_ble_eq_true rfl) dX12_toldNumber_1 ⟨Nat.le_of_ble_eq_true rfl, Nat.le_of_ble_eq_true rfl⟩ [some 0, some 1, some 2] (of_decide_eq_true rfl) (of_decide_eq_true rfl) rfl rfl rfl (fun H locs hP hD hS => ?_)
  refine lv_istore_n (lv' := [(1, .int o_1.1), (0, .ref h0)]) hx hb dX12_toldNumber_4 rfl hl (of_decide_eq_true rfl) rfl (fun ls hl => ?_)
  refine lv_aload_n hx hb dX12_toldNumber_5 rfl (lv_at hl 1 rfl) ?_
  obtain ⟨o_5, hqo_5, hfn⟩ := zb_s hfn
  refine zcVb (ci := 12) (rest := []) (pc' := 9) (ws' := [(h0, .inr (12, zO a0 (zI (zI (zI (zI b0 6 o_1.2.1) 7 o_1.2.2.1) 8 o_1.2.2.2.1) 9 o_1.2.2.2.2) c0)), zVi (a0 0) k1 1200 f1, zVi (a0 10) k2 71 f2, zVi (a0 17) k3 2 f3, zVi (a0 18) k4 28 f4]) hP hK hD hS hA ⟨hx, hb, hml, hown, hts⟩ (zf_X12_goesWell l dC dI h0 a0 (zI (zI (zI (zI b0 6 o_1.2.1) 7 o_1.2.2.1) 8 o_1.2.2.2.1) 9 o_1.2.2.2.2) c0 o_5 hqo_5 H.size) (cwV 0 hts gX12_toldNumber_X12_goesWell rfl rfl rfl zhd_X12_goesWell ⟨Nat.le_of_ble_eq_true rfl, Nat.le_of_ble_eq_true rfl⟩) [0] rfl (of_decide_eq_true rfl) [] rfl rfl rfl rfl hl.1 rfl (Nat.le_of_ble_eq_true rfl) dX12_toldNumber_6 ⟨Nat.le_of_ble_eq_true rfl, Nat.le_of_ble_eq_true rfl⟩ [some 0] (of_decide_eq_true rfl) (of_decide_eq_true rfl) rfl rfl rfl (fun H locs hw_8n hP hD hS => ?_)
  obtain ⟨j_9, ej_9, hfn⟩ := zj_g hfn
  have jp_9 : ∀ (s_9 : Int32) (H : Heap) (locs : List Loc) (ls : Array Slot), j_9 s_9 = some o → va_P (dC, dI) vwCl [(h0, .inr (12, zO a0 (zI (zI (zI (zI b0 6 o_1.2.1) 7 o_1.2.2.1) 8 o_1.2.2.2.1) 9 o_1.2.2.2.2) c0)), zVi (a0 0) k1 1200 f1, zVi (a0 10) k2 71 f2, zVi (a0 17) k3 2 f3, zVi (a0 18) k4 28 f4] H → va_D A [(h0, .inr (12, zO a0 (zI (zI (zI (zI b0 6 o_1.2.1) 7 o_1.2.2.1) 8 o_1.2.2.2.1) 9 o_1.2.2.2.2) c0)), zVi (a0 0) k1 1200 f1, zVi (a0 10) k2 71 f2, zVi (a0 17) k3 2 f3, zVi (a0 18) k4 28 f4] → va_S A s.heap H locs → lv_has ls 3 [(0, .ref h0)] → W p l e (headSpec wsX12_toldNumber ({ frames := 4, cells := 0, slots := 0, locals := 84 })).room s m ([.ref h0] : List Value).toArray below meth c H locs 0 0 Q (F0 m 21 ls [.int s_9]) := by
    intro s_9 H locs ls hfn hP hD hS hl
    have hfn := zj_s ej_9 hfn
    refine lv_istore_n (lv' := [(2, .int s_9), (0, .ref h0)]) hx hb dX12_toldNumber_21 rfl hl (of_decide_eq_true rfl) rfl (fun ls hl => ?_)
    refine lv_aload_n hx hb dX12_toldNumber_22 rfl (lv_at hl 1 rfl) ?_
    obtain ⟨o_10, hqo_10, hfn⟩ := zb_s hfn
    refine zcVb (ci := 12) (rest := []) (pc' := 26) (ws' := [(h0, .inr (12, zO a0 (zI (zI (zI (zI b0 6 o_1.2.1) 7 o_1.2.2.1) 8 o_1.2.2.2.1) 9 o_1.2.2.2.2) c0)), zVi (a0 0) k1 1200 f1, zVi (a0 10) k2 71 f2, zVi (a0 17) k3 2 f3, zVi (a0 18) k4 28 f4]) hP hK hD hS hA ⟨hx, hb, hml, hown, hts⟩ (zf_X12_goesWell l dC dI h0 a0 (zI (zI (zI (zI b0 6 o_1.2.1) 7 o_1.2.2.1) 8 o_1.2.2.2.1) 9 o_1.2.2.2.2) c0 o_10 hqo_10 H.size) (cwV 0 hts gX12_toldNumber_X12_goesWell rfl rfl rfl zhd_X12_goesWell ⟨Nat.le_of_ble_eq_true rfl, Nat.le_of_ble_eq_true rfl⟩) [0] rfl (of_decide_eq_true rfl) [] rfl rfl rfl rfl hl.1 rfl (Nat.le_of_ble_eq_true rfl) dX12_toldNumber_23 ⟨Nat.le_of_ble_eq_true rfl, Nat.le_of_ble_eq_true rfl⟩ [some 0] (of_decide_eq_true rfl) (of_decide_eq_true rfl) rfl rfl rfl (fun H locs hw_13n hP hD hS => ?_)
    refine lv_if_eq (tgt := 43) hx hb dX12_toldNumber_26 (of_decide_eq_true rfl) (fun c_14 => ?_) (fun c_14 => ?_)
    · have hfn := (if_pos c_14).symm.trans hfn
      refine lv_aload_n hx hb dX12_toldNumber_43 rfl (lv_at hl 1 rfl) ?_
      obtain ⟨o_15, hqo_15, hfn⟩ := zb_s hfn
      refine zcVb (ci := 12) (rest := []) (pc' := 47) (ws' := [(h0, .inr (12, zO a0 (zI (zI (zI (zI b0 6 o_1.2.1) 7 o_1.2.2.1) 8 o_1.2.2.2.1) 9 o_1.2.2.2.2) c0)), zVi (a0 0) k1 1200 f1, zVi (a0 10) k2 71 f2, zVi (a0 17) k3 2 f3, zVi (a0 18) k4 28 f4]) hP hK hD hS hA ⟨hx, hb, hml, hown, hts⟩ (zf_X12_goesWell l dC dI h0 a0 (zI (zI (zI (zI b0 6 o_1.2.1) 7 o_1.2.2.1) 8 o_1.2.2.2.1) 9 o_1.2.2.2.2) c0 o_15 hqo_15 H.size) (cwV 0 hts gX12_toldNumber_X12_goesWell rfl rfl rfl zhd_X12_goesWell ⟨Nat.le_of_ble_eq_true rfl, Nat.le_of_ble_eq_true rfl⟩) [0] rfl (of_decide_eq_true rfl) [] rfl rfl rfl rfl hl.1 rfl (Nat.le_of_ble_eq_true rfl) dX12_toldNumber_44 ⟨Nat.le_of_ble_eq_true rfl, Nat.le_of_ble_eq_true rfl⟩ [some 0] (of_decide_eq_true rfl) (of_decide_eq_true rfl) rfl rfl rfl (fun H locs hw_18n hP hD hS => ?_)
      refine lv_if_eq (tgt := 54) hx hb dX12_toldNumber_47 (of_decide_eq_true rfl) (fun c_19 => ?_) (fun c_19 => ?_)
      · have hfn := (if_pos c_19).symm.trans hfn
        refine lv_iconst (v := 0) hx hb dX12_toldNumber_54 zci_0 ?_
        have ho := Option.some.inj hfn
        subst ho
        exact zri hx hb hr hK hP hD hS hQ rfl hlocks dX12_toldNumber_55
      have hfn := (if_neg c_19).symm.trans hfn
      refine lv_iload_n hx hb dX12_toldNumber_50 rfl (lv_at hl 0 rfl) ?_
      refine lv_goto (tgt := 55) hx hb dX12_toldNumber_51 (of_decide_eq_true rfl) ?_
      have ho := Option.some.inj hfn
      subst ho
      exact zri hx hb hr hK hP hD hS hQ rfl hlocks dX12_toldNumber_55
    have hfn := (if_neg c_14).symm.trans hfn
    refine lv_iload_n hx hb dX12_toldNumber_29 rfl (lv_at hl 0 rfl) ?_
    refine lv_iconst (v := (-1)) hx hb dX12_toldNumber_30 zci_m1 ?_
    refine lv_icmp_ne (tgt := 43) hx hb dX12_toldNumber_31 (of_decide_eq_true rfl) (fun c_20 => ?_) (fun c_20 => ?_)
    · have hfn := (if_neg c_20).symm.trans hfn
      refine lv_aload_n hx hb dX12_toldNumber_43 rfl (lv_at hl 1 rfl) ?_
      obtain ⟨o_21, hqo_21, hfn⟩ := zb_s hfn
      refine zcVb (ci := 12) (rest := []) (pc' := 47) (ws' := [(h0, .inr (12, zO a0 (zI (zI (zI (zI b0 6 o_1.2.1) 7 o_1.2.2.1) 8 o_1.2.2.2.1) 9 o_1.2.2.2.2) c0)), zVi (a0 0) k1 1200 f1, zVi (a0 10) k2 71 f2, zVi (a0 17) k3 2 f3, zVi (a0 18) k4 28 f4]) hP hK hD hS hA ⟨hx, hb, hml, hown, hts⟩ (zf_X12_goesWell l dC dI h0 a0 (zI (zI (zI (zI b0 6 o_1.2.1) 7 o_1.2.2.1) 8 o_1.2.2.2.1) 9 o_1.2.2.2.2) c0 o_21 hqo_21 H.size) (cwV 0 hts gX12_toldNumber_X12_goesWell rfl rfl rfl zhd_X12_goesWell ⟨Nat.le_of_ble_eq_true rfl, Nat.le_of_ble_eq_true rfl⟩) [0] rfl (of_decide_eq_true rfl) [] rfl rfl rfl rfl hl.1 rfl (Nat.le_of_ble_eq_true rfl) dX12_toldNumber_44 ⟨Nat.le_of_ble_eq_true rfl, Nat.le_of_ble_eq_true rfl⟩ [some 0] (of_decide_eq_true rfl) (of_decide_eq_true rfl) rfl rfl rfl (fun H locs hw_24n hP hD hS => ?_)
      refine lv_if_eq (tgt := 54) hx hb dX12_toldNumber_47 (of_decide_eq_true rfl) (fun c_25 => ?_) (fun c_25 => ?_)
      · have hfn := (if_pos c_25).symm.trans hfn
        refine lv_iconst (v := 0) hx hb dX12_toldNumber_54 zci_0 ?_
        have ho := Option.some.inj hfn
        subst ho
        exact zri hx hb hr hK hP hD hS hQ rfl hlocks dX12_toldNumber_55
      have hfn := (if_neg c_25).symm.trans hfn
      refine lv_iload_n hx hb dX12_toldNumber_50 rfl (lv_at hl 0 rfl) ?_
      refine lv_goto (tgt := 55) hx hb dX12_toldNumber_51 (of_decide_eq_true rfl) ?_
      have ho := Option.some.inj hfn
      subst ho
      exact zri hx hb hr hK hP hD hS hQ rfl hlocks dX12_toldNumber_55
    have hfn := (if_pos c_20).symm.trans hfn
    refine lv_aload_n hx hb dX12_toldNumber_34 rfl (lv_at hl 1 rfl) ?_
    refine lv_iconst (v := 3) hx hb dX12_toldNumber_35 zci_3 ?_
    refine lv_aload_n hx hb dX12_toldNumber_36 rfl (lv_at hl 1 rfl) ?_
    refine va_get (D := (dC, dI)) (ci := 12) (v := .int o_1.2.2.1) (C := RX12) (T := TX12) (N := 67) hx hb hts zn_X12_toldNumber_X12 hown hK hP 0 rfl rfl 7 (of_decide_eq_true rfl) (hts (.fieldLink RX12 32 "ShortEnoughModel" "begun" "I") zw_X12_toldNumber_929) (fun _ h9 => h9) rfl dX12_toldNumber_37 ?_
    obtain ⟨o_26, hqo_26, hfn⟩ := zb_s hfn
    refine zcVv (ci := 12) (rest := []) (pc' := 43) (ws' := [(h0, .inr (12, zO a0 (zI (zI (zI (zI b0 6 o_1.2.1) 7 o_1.2.2.1) 8 o_26.1) 9 o_26.2) c0)), zVi (a0 0) k1 1200 f1, zVi (a0 10) k2 71 f2, zVi (a0 17) k3 2 f3, zVi (a0 18) k4 28 f4]) hP hK hD hS hA ⟨hx, hb, hml, hown, hts⟩ (zf_X12_faults l dC dI h0 3 o_1.2.2.1 a0 (zI (zI (zI (zI b0 6 o_1.2.1) 7 o_1.2.2.1) 8 o_1.2.2.2.1) 9 o_1.2.2.2.2) c0 o_26 hqo_26 H.size) (cwV 2 hts gX12_toldNumber_X12_faults rfl rfl rfl zhd_X12_faults ⟨Nat.le_of_ble_eq_true rfl, Nat.le_of_ble_eq_true rfl⟩) [0] rfl (of_decide_eq_true rfl) [] rfl rfl rfl rfl hl.1 rfl (Nat.le_of_ble_eq_true rfl) dX12_toldNumber_40 ⟨Nat.le_of_ble_eq_true rfl, Nat.le_of_ble_eq_true rfl⟩ [some 0] (of_decide_eq_true rfl) (of_decide_eq_true rfl) rfl rfl rfl (fun H locs hP hD hS => ?_)
    refine lv_aload_n hx hb dX12_toldNumber_43 rfl (lv_at hl 1 rfl) ?_
    obtain ⟨o_30, hqo_30, hfn⟩ := zb_s hfn
    refine zcVb (ci := 12) (rest := []) (pc' := 47) (ws' := [(h0, .inr (12, zO a0 (zI (zI (zI (zI b0 6 o_1.2.1) 7 o_1.2.2.1) 8 o_26.1) 9 o_26.2) c0)), zVi (a0 0) k1 1200 f1, zVi (a0 10) k2 71 f2, zVi (a0 17) k3 2 f3, zVi (a0 18) k4 28 f4]) hP hK hD hS hA ⟨hx, hb, hml, hown, hts⟩ (zf_X12_goesWell l dC dI h0 a0 (zI (zI (zI (zI b0 6 o_1.2.1) 7 o_1.2.2.1) 8 o_26.1) 9 o_26.2) c0 o_30 hqo_30 H.size) (cwV 0 hts gX12_toldNumber_X12_goesWell rfl rfl rfl zhd_X12_goesWell ⟨Nat.le_of_ble_eq_true rfl, Nat.le_of_ble_eq_true rfl⟩) [0] rfl (of_decide_eq_true rfl) [] rfl rfl rfl rfl hl.1 rfl (Nat.le_of_ble_eq_true rfl) dX12_toldNumber_44 ⟨Nat.le_of_ble_eq_true rfl, Nat.le_of_ble_eq_true rfl⟩ [some 0] (of_decide_eq_true rfl) (of_decide_eq_true rfl) rfl rfl rfl (fun H locs hw_33n hP hD hS => ?_)
    refine lv_if_eq (tgt := 54) hx hb dX12_toldNumber_47 (of_decide_eq_true rfl) (fun c_34 => ?_) (fun c_34 => ?_)
    · have hfn := (if_pos c_34).symm.trans hfn
      refine lv_iconst (v := 0) hx hb dX12_toldNumber_54 zci_0 ?_
      have ho := Option.some.inj hfn
      subst ho
      exact zri hx hb hr hK hP hD hS hQ rfl hlocks dX12_toldNumber_55
    have hfn := (if_neg c_34).symm.trans hfn
    refine lv_iload_n hx hb dX12_toldNumber_50 rfl (lv_at hl 0 rfl) ?_
    refine lv_goto (tgt := 55) hx hb dX12_toldNumber_51 (of_decide_eq_true rfl) ?_
    have ho := Option.some.inj hfn
    subst ho
    exact zri hx hb hr hK hP hD hS hQ rfl hlocks dX12_toldNumber_55
  refine lv_if_eq (tgt := 20) hx hb dX12_toldNumber_9 (of_decide_eq_true rfl) (fun c_35 => ?_) (fun c_35 => ?_)
  · have hfn := (if_pos c_35).symm.trans hfn
    refine lv_iconst (v := 0) hx hb dX12_toldNumber_20 zci_0 ?_
    exact jp_9 0 H locs ls hfn hP hD hS (lv_sub hl [1] rfl)
  have hfn := (if_neg c_35).symm.trans hfn
  refine lv_aload_n hx hb dX12_toldNumber_12 rfl (lv_at hl 1 rfl) ?_
  refine lv_iload_n hx hb dX12_toldNumber_13 rfl (lv_at hl 0 rfl) ?_
  obtain ⟨o_36, hqo_36, hfn⟩ := zb_s hfn
  refine zcVi (ci := 12) (rest := []) (pc' := 17) (ws' := [(h0, .inr (12, zO a0 (zI (zI (zI (zI b0 6 o_1.2.1) 7 o_1.2.2.1) 8 o_1.2.2.2.1) 9 o_1.2.2.2.2) c0)), zVi (a0 0) k1 1200 f1, zVi (a0 10) k2 71 f2, zVi (a0 17) k3 2 f3, zVi (a0 18) k4 28 f4]) hP hK hD hS hA ⟨hx, hb, hml, hown, hts⟩ (zf_X12_numberNamed l dC dI h0 o_1.1 a0 (zI (zI (zI (zI b0 6 o_1.2.1) 7 o_1.2.2.1) 8 o_1.2.2.2.1) 9 o_1.2.2.2.2) c0 k3 f3 k4 f4 o_36 hqo_36 H.size) (cwV 1 hts gX12_toldNumber_X12_numberNamed rfl rfl rfl zhd_X12_numberNamed ⟨Nat.le_of_ble_eq_true rfl, Nat.le_of_ble_eq_true rfl⟩) [0, 3, 4] rfl (of_decide_eq_true rfl) [2, 3] rfl rfl rfl rfl hl.1 rfl (Nat.le_of_ble_eq_true rfl) dX12_toldNumber_14 ⟨Nat.le_of_ble_eq_true rfl, Nat.le_of_ble_eq_true rfl⟩ [some 0, none, none, some 1, some 2] (of_decide_eq_true rfl) (of_decide_eq_true rfl) rfl rfl rfl (fun H locs hP hD hS => ?_)
  refine lv_goto (tgt := 21) hx hb dX12_toldNumber_17 (of_decide_eq_true rfl) ?_
  exact jp_9 o_36 H locs ls hfn hP hD hS (lv_sub hl [1] rfl)
theorem zw_X12_readsFormat_930 : Cond.constantLong RX12 288 (1000000) ∈ wsX12_readsFormat := List.mem_of_getElem? (i := 1) (by decide +kernel)
theorem zw_X12_readsFormat_931 : Cond.constantLong RX12 294 (1000000000) ∈ wsX12_readsFormat := List.mem_of_getElem? (i := 2) (by decide +kernel)
theorem zn_X12_readsFormat_X12 : ∀ w ∈ wsX120, w ∈ wsX12_readsFormat := fun _ h => List.mem_cons_of_mem _ (List.mem_append_right _ h)
theorem zw_X12_readsFormat_933 : Cond.fieldLink RX12 32 "ShortEnoughModel" "begun" "I" ∈ wsX12_readsFormat := List.mem_of_getElem? (i := 3) (by decide +kernel)
theorem zw_X12_readsFormat_934 : Cond.constantLong RX12 296 (999) ∈ wsX12_readsFormat := List.mem_of_getElem? (i := 4) (by decide +kernel)
theorem zw_X12_readsFormat_935 : Cond.fieldLink RX12 47 "ShortEnoughModel" "formats" "[I" ∈ wsX12_readsFormat := List.mem_of_getElem? (i := 5) (by decide +kernel)
theorem zw_X12_readsFormat_936 : Cond.fieldLink RX12 44 "ShortEnoughModel" "in" "I" ∈ wsX12_readsFormat := List.mem_of_getElem? (i := 6) (by decide +kernel)
theorem zw_X12_readsFormat_937 : Cond.fieldLink RX12 50 "ShortEnoughModel" "formatName" "[I" ∈ wsX12_readsFormat := List.mem_of_getElem? (i := 7) (by decide +kernel)
theorem zw_X12_readsFormat_938 : Cond.fieldLink RX12 53 "ShortEnoughModel" "step" "[I" ∈ wsX12_readsFormat := List.mem_of_getElem? (i := 8) (by decide +kernel)
theorem zw_X12_readsFormat_939 : Cond.fieldLink RX12 56 "ShortEnoughModel" "most" "[I" ∈ wsX12_readsFormat := List.mem_of_getElem? (i := 9) (by decide +kernel)
theorem zw_X12_readsFormat_940 : Cond.fieldLink RX12 59 "ShortEnoughModel" "formatCost" "[I" ∈ wsX12_readsFormat := List.mem_of_getElem? (i := 10) (by decide +kernel)
set_option maxHeartbeats 4000000 in
set_option maxRecDepth 100000 in
theorem zf_X12_readsFormat (l : Launch) (dC : Nat → ClassId) (dI : Nat → Nat → Nat) (h0 : Nat) (a0 : Nat → Nat) (b0 : Nat → Int32) (c0 : Nat → Int64) (k1 : Nat) (f1 : Nat → Int32) (k2 : Nat) (f2 : Nat → Int32) (k3 : Nat) (f3 : Nat → Int32) (k4 : Nat) (f4 : Nat → Int32) (k5 : Nat) (f5 : Nat → Int32) (k6 : Nat) (f6 : Nat → Int32) (k7 : Nat) (f7 : Nat → Int32) (k8 : Nat) (f8 : Nat → Int32) (k9 : Nat) (f9 : Nat → Int32) (o : Int32 × Int32 × Int32 × Int32 × (Nat → Int32) × (Nat → Int32) × (Nat → Int32) × (Nat → Int32) × (Nat → Int32)) (hfn : fn_X12_readsFormat (b0 5) (b0 6) (b0 7) (b0 8) (b0 9) (b0 11) f1 f2 f3 f4 f5 f6 f7 f8 f9 = some o) (sz : Nat) : zMv l yX12_readsFormat wsX12_readsFormat ({ frames := 5, cells := 0, slots := 0, locals := 105 }) (dC, dI) vwCl [.ref h0] [(h0, .inr (12, zO a0 b0 c0)), zVi (a0 0) k1 1200 f1, zVi (a0 10) k2 71 f2, zVi (a0 12) k3 2 f3, zVi (a0 13) k4 8 f4, zVi (a0 17) k5 2 f5, zVi (a0 18) k6 28 f6, zVi (a0 14) k7 8 f7, zVi (a0 15) k8 8 f8, zVi (a0 16) k9 8 f9] [(k1, .int), (k2, .int), (k3, .int), (k4, .int), (k5, .int), (k6, .int), (k7, .int), (k8, .int), (k9, .int)] (fun _ => True) [(h0, .inr (12, zO a0 (zI (zI (zI (zI b0 6 o.1) 7 o.2.1) 8 o.2.2.1) 9 o.2.2.2.1) c0)), zVi (a0 0) k1 1200 f1, zVi (a0 10) k2 71 f2, zVi (a0 12) k3 2 o.2.2.2.2.1, zVi (a0 13) k4 8 o.2.2.2.2.2.1, zVi (a0 17) k5 2 f5, zVi (a0 18) k6 28 f6, zVi (a0 14) k7 8 o.2.2.2.2.2.2.1, zVi (a0 15) k8 8 o.2.2.2.2.2.2.2.1, zVi (a0 16) k9 8 o.2.2.2.2.2.2.2.2] [(k1, .int), (k2, .int), (k3, .int), (k4, .int), (k5, .int), (k6, .int), (k7, .int), (k8, .int), (k9, .int)] sz := by
  refine zgov (cc := cX12_readsFormat) (maxL := 9) (ret := none) (C0 := RX12) (lv0 := [(0, .ref h0)]) zpl_X12 rfl rfl rfl (Nat.le_of_ble_eq_true rfl) ?_
  intro p e s m below meth c A ls Q hx hb hr hts hown hlocks hml hP hK hD hA hS hl hQ
  unfold fn_X12_readsFormat at hfn
  refine lv_aload_n hx hb dX12_readsFormat_0 rfl (lv_at hl 0 rfl) ?_
  obtain ⟨o_1, hqo_1, hfn⟩ := zb_s hfn
  refine zcVi (ci := 12) (rest := []) (pc' := 4) (ws' := [(h0, .inr (12, zO a0 (zI (zI (zI (zI b0 6 o_1.2.1) 7 o_1.2.2.1) 8 o_1.2.2.2.1) 9 o_1.2.2.2.2) c0)), zVi (a0 0) k1 1200 f1, zVi (a0 10) k2 71 f2, zVi (a0 12) k3 2 f3, zVi (a0 13) k4 8 f4, zVi (a0 17) k5 2 f5, zVi (a0 18) k6 28 f6, zVi (a0 14) k7 8 f7, zVi (a0 15) k8 8 f8, zVi (a0 16) k9 8 f9]) hP hK hD hS hA ⟨hx, hb, hml, hown, hts⟩ (zf_X12_newName l dC dI h0 a0 b0 c0 k1 f1 k2 f2 k3 f3 k4 f4 k5 f5 k6 f6 o_1 hqo_1 s.heap.size) (cwV 0 hts gX12_readsFormat_X12_newName rfl rfl rfl zhd_X12_newName ⟨Nat.le_of_ble_eq_true rfl, Nat.le_of_ble_eq_true rfl⟩) [0, 1, 2, 3, 4, 5, 6] rfl (of_decide_eq_true rfl) [0, 1, 2, 3, 4, 5] rfl rfl rfl rfl hl.1 rfl (Nat.le_of_ble_eq_true rfl) dX12_readsFormat_1 ⟨Nat.le_of_ble_eq_true rfl, Nat.le_of_ble_eq_true rfl⟩ [some 0, some 1, some 2, some 3, some 4, some 5, some 6] (of_decide_eq_true rfl) (of_decide_eq_true rfl) rfl rfl rfl (fun H locs hP hD hS => ?_)
  refine lv_istore_n (lv' := [(1, .int o_1.1), (0, .ref h0)]) hx hb dX12_readsFormat_4 rfl hl (of_decide_eq_true rfl) rfl (fun ls hl => ?_)
  refine lv_aload_n hx hb dX12_readsFormat_5 rfl (lv_at hl 1 rfl) ?_
  refine lv_iconst (v := 1) hx hb dX12_readsFormat_6 zci_1 ?_
  obtain ⟨o_5, hqo_5, hfn⟩ := zb_s hfn
  refine zcVv (ci := 12) (rest := []) (pc' := 10) (ws' := [(h0, .inr (12, zO a0 (zI (zI (zI (zI b0 6 o_5.1) 7 o_5.2.1) 8 o_5.2.2.1) 9 o_5.2.2.2) c0)), zVi (a0 0) k1 1200 f1, zVi (a0 10) k2 71 f2, zVi (a0 12) k3 2 f3, zVi (a0 13) k4 8 f4, zVi (a0 17) k5 2 f5, zVi (a0 18) k6 28 f6, zVi (a0 14) k7 8 f7, zVi (a0 15) k8 8 f8, zVi (a0 16) k9 8 f9]) hP hK hD hS hA ⟨hx, hb, hml, hown, hts⟩ (zf_X12_must l dC dI h0 1 a0 (zI (zI (zI (zI b0 6 o_1.2.1) 7 o_1.2.2.1) 8 o_1.2.2.2.1) 9 o_1.2.2.2.2) c0 k1 f1 k2 f2 o_5 hqo_5 H.size) (cwV 1 hts gX12_readsFormat_X12_must rfl rfl rfl zhd_X12_must ⟨Nat.le_of_ble_eq_true rfl, Nat.le_of_ble_eq_true rfl⟩) [0, 1, 2] rfl (of_decide_eq_true rfl) [0, 1] rfl rfl rfl rfl hl.1 rfl (Nat.le_of_ble_eq_true rfl) dX12_readsFormat_7 ⟨Nat.le_of_ble_eq_true rfl, Nat.le_of_ble_eq_true rfl⟩ [some 0, some 1, some 2] (of_decide_eq_true rfl) (of_decide_eq_true rfl) rfl rfl rfl (fun H locs hP hD hS => ?_)
  refine lv_aload_n hx hb dX12_readsFormat_10 rfl (lv_at hl 1 rfl) ?_
  refine lv_lconst (v := 1) hx hb dX12_readsFormat_11 (by decide +kernel) ?_
  refine lv_ldc2 (v := 1000000) hx hb hown (hts (.constantLong RX12 288 (1000000)) zw_X12_readsFormat_930) dX12_readsFormat_12 ?_
  obtain ⟨o_9, hqo_9, hfn⟩ := zb_s hfn
  refine zcVl (ci := 12) (rest := []) (pc' := 18) (ws' := [(h0, .inr (12, zO a0 (zI (zI (zI (zI b0 6 o_9.2.1) 7 o_9.2.2.1) 8 o_9.2.2.2.1) 9 o_9.2.2.2.2) c0)), zVi (a0 0) k1 1200 f1, zVi (a0 10) k2 71 f2, zVi (a0 12) k3 2 f3, zVi (a0 13) k4 8 f4, zVi (a0 17) k5 2 f5, zVi (a0 18) k6 28 f6, zVi (a0 14) k7 8 f7, zVi (a0 15) k8 8 f8, zVi (a0 16) k9 8 f9]) hP hK hD hS hA ⟨hx, hb, hml, hown, hts⟩ (zf_X12_number l dC dI h0 (1 : Int64) (1000000 : Int64) a0 (zI (zI (zI (zI b0 6 o_5.1) 7 o_5.2.1) 8 o_5.2.2.1) 9 o_5.2.2.2) c0 k1 f1 o_9 hqo_9 H.size) (cwV 2 hts gX12_readsFormat_X12_number rfl rfl rfl zhd_X12_number ⟨Nat.le_of_ble_eq_true rfl, Nat.le_of_ble_eq_true rfl⟩) [0, 1] rfl (of_decide_eq_true rfl) [0] rfl rfl rfl rfl hl.1 rfl (Nat.le_of_ble_eq_true rfl) dX12_readsFormat_15 ⟨Nat.le_of_ble_eq_true rfl, Nat.le_of_ble_eq_true rfl⟩ [some 0, some 1] (of_decide_eq_true rfl) (of_decide_eq_true rfl) rfl rfl rfl (fun H locs hP hD hS => ?_)
  refine lv_lstore_n (lv' := [(2, .long o_9.1), (1, .int o_1.1), (0, .ref h0)]) hx hb dX12_readsFormat_18 rfl hl (of_decide_eq_true rfl) rfl (fun ls hl => ?_)
  refine lv_aload_n hx hb dX12_readsFormat_19 rfl (lv_at hl 2 rfl) ?_
  refine lv_iconst (v := 2) hx hb dX12_readsFormat_20 zci_2 ?_
  obtain ⟨o_13, hqo_13, hfn⟩ := zb_s hfn
  refine zcVv (ci := 12) (rest := []) (pc' := 24) (ws' := [(h0, .inr (12, zO a0 (zI (zI (zI (zI b0 6 o_13.1) 7 o_13.2.1) 8 o_13.2.2.1) 9 o_13.2.2.2) c0)), zVi (a0 0) k1 1200 f1, zVi (a0 10) k2 71 f2, zVi (a0 12) k3 2 f3, zVi (a0 13) k4 8 f4, zVi (a0 17) k5 2 f5, zVi (a0 18) k6 28 f6, zVi (a0 14) k7 8 f7, zVi (a0 15) k8 8 f8, zVi (a0 16) k9 8 f9]) hP hK hD hS hA ⟨hx, hb, hml, hown, hts⟩ (zf_X12_must l dC dI h0 2 a0 (zI (zI (zI (zI b0 6 o_9.2.1) 7 o_9.2.2.1) 8 o_9.2.2.2.1) 9 o_9.2.2.2.2) c0 k1 f1 k2 f2 o_13 hqo_13 H.size) (cwV 1 hts gX12_readsFormat_X12_must rfl rfl rfl zhd_X12_must ⟨Nat.le_of_ble_eq_true rfl, Nat.le_of_ble_eq_true rfl⟩) [0, 1, 2] rfl (of_decide_eq_true rfl) [0, 1] rfl rfl rfl rfl hl.1 rfl (Nat.le_of_ble_eq_true rfl) dX12_readsFormat_21 ⟨Nat.le_of_ble_eq_true rfl, Nat.le_of_ble_eq_true rfl⟩ [some 0, some 1, some 2] (of_decide_eq_true rfl) (of_decide_eq_true rfl) rfl rfl rfl (fun H locs hP hD hS => ?_)
  refine lv_aload_n hx hb dX12_readsFormat_24 rfl (lv_at hl 2 rfl) ?_
  obtain ⟨o_17, hqo_17, hfn⟩ := zb_s hfn
  refine zcVl (ci := 12) (rest := []) (pc' := 28) (ws' := [(h0, .inr (12, zO a0 (zI (zI (zI (zI b0 6 o_17.2.1) 7 o_17.2.2.1) 8 o_17.2.2.2.1) 9 o_17.2.2.2.2) c0)), zVi (a0 0) k1 1200 f1, zVi (a0 10) k2 71 f2, zVi (a0 12) k3 2 f3, zVi (a0 13) k4 8 f4, zVi (a0 17) k5 2 f5, zVi (a0 18) k6 28 f6, zVi (a0 14) k7 8 f7, zVi (a0 15) k8 8 f8, zVi (a0 16) k9 8 f9]) hP hK hD hS hA ⟨hx, hb, hml, hown, hts⟩ (zf_X12_digits l dC dI h0 a0 (zI (zI (zI (zI b0 6 o_13.1) 7 o_13.2.1) 8 o_13.2.2.1) 9 o_13.2.2.2) c0 k1 f1 o_17 hqo_17 H.size) (cwV 0 hts gX12_readsFormat_X12_digits rfl rfl rfl zhd_X12_digits ⟨Nat.le_of_ble_eq_true rfl, Nat.le_of_ble_eq_true rfl⟩) [0, 1] rfl (of_decide_eq_true rfl) [0] rfl rfl rfl rfl hl.1 rfl (Nat.le_of_ble_eq_true rfl) dX12_readsFormat_25 ⟨Nat.le_of_ble_eq_true rfl, Nat.le_of_ble_eq_true rfl⟩ [some 0, some 1] (of_decide_eq_true rfl) (of_decide_eq_true rfl) rfl rfl rfl (fun H locs hP hD hS => ?_)
  refine lv_lstore (lv' := [(4, .long o_17.1), (2, .long o_9.1), (1, .int o_1.1), (0, .ref h0)]) hx hb dX12_readsFormat_28 hl (of_decide_eq_true rfl) rfl (fun ls hl => ?_)
  refine lv_aload_n hx hb dX12_readsFormat_30 rfl (lv_at hl 3 rfl) ?_
  obtain ⟨o_21, hqo_21, hfn⟩ := zb_s hfn
  refine zcVb (ci := 12) (rest := []) (pc' := 34) (ws' := [(h0, .inr (12, zO a0 (zI (zI (zI (zI b0 6 o_17.2.1) 7 o_17.2.2.1) 8 o_17.2.2.2.1) 9 o_17.2.2.2.2) c0)), zVi (a0 0) k1 1200 f1, zVi (a0 10) k2 71 f2, zVi (a0 12) k3 2 f3, zVi (a0 13) k4 8 f4, zVi (a0 17) k5 2 f5, zVi (a0 18) k6 28 f6, zVi (a0 14) k7 8 f7, zVi (a0 15) k8 8 f8, zVi (a0 16) k9 8 f9]) hP hK hD hS hA ⟨hx, hb, hml, hown, hts⟩ (zf_X12_goesWell l dC dI h0 a0 (zI (zI (zI (zI b0 6 o_17.2.1) 7 o_17.2.2.1) 8 o_17.2.2.2.1) 9 o_17.2.2.2.2) c0 o_21 hqo_21 H.size) (cwV 0 hts gX12_readsFormat_X12_goesWell rfl rfl rfl zhd_X12_goesWell ⟨Nat.le_of_ble_eq_true rfl, Nat.le_of_ble_eq_true rfl⟩) [0] rfl (of_decide_eq_true rfl) [] rfl rfl rfl rfl hl.1 rfl (Nat.le_of_ble_eq_true rfl) dX12_readsFormat_31 ⟨Nat.le_of_ble_eq_true rfl, Nat.le_of_ble_eq_true rfl⟩ [some 0] (of_decide_eq_true rfl) (of_decide_eq_true rfl) rfl rfl rfl (fun H locs hw_24n hP hD hS => ?_)
  obtain ⟨j_25, ej_25, hfn⟩ := zj_g hfn
  have jp_25 : ∀ (s_25 : Int32 × Int32) (H : Heap) (locs : List Loc) (ls : Array Slot), j_25 s_25 = some o → va_P (dC, dI) vwCl [(h0, .inr (12, zO a0 (zI (zI (zI (zI b0 6 o_17.2.1) 7 o_17.2.2.1) 8 s_25.1) 9 s_25.2) c0)), zVi (a0 0) k1 1200 f1, zVi (a0 10) k2 71 f2, zVi (a0 12) k3 2 f3, zVi (a0 13) k4 8 f4, zVi (a0 17) k5 2 f5, zVi (a0 18) k6 28 f6, zVi (a0 14) k7 8 f7, zVi (a0 15) k8 8 f8, zVi (a0 16) k9 8 f9] H → va_D A [(h0, .inr (12, zO a0 (zI (zI (zI (zI b0 6 o_17.2.1) 7 o_17.2.2.1) 8 s_25.1) 9 s_25.2) c0)), zVi (a0 0) k1 1200 f1, zVi (a0 10) k2 71 f2, zVi (a0 12) k3 2 f3, zVi (a0 13) k4 8 f4, zVi (a0 17) k5 2 f5, zVi (a0 18) k6 28 f6, zVi (a0 14) k7 8 f7, zVi (a0 15) k8 8 f8, zVi (a0 16) k9 8 f9] → va_S A s.heap H locs → lv_has ls 9 [(4, .long o_17.1), (2, .long o_9.1), (1, .int o_1.1), (0, .ref h0)] → W p l e (headSpec wsX12_readsFormat ({ frames := 5, cells := 0, slots := 0, locals := 105 })).room s m ([.ref h0] : List Value).toArray below meth c H locs 0 0 Q (F0 m 58 ls []) := by
    intro s_25 H locs ls hfn hP hD hS hl
    have hfn := zj_s ej_25 hfn
    refine lv_aload_n hx hb dX12_readsFormat_58 rfl (lv_at hl 3 rfl) ?_
    refine lv_iconst (v := 3) hx hb dX12_readsFormat_59 zci_3 ?_
    obtain ⟨o_26, hqo_26, hfn⟩ := zb_s hfn
    refine zcVv (ci := 12) (rest := []) (pc' := 63) (ws' := [(h0, .inr (12, zO a0 (zI (zI (zI (zI b0 6 o_26.1) 7 o_26.2.1) 8 o_26.2.2.1) 9 o_26.2.2.2) c0)), zVi (a0 0) k1 1200 f1, zVi (a0 10) k2 71 f2, zVi (a0 12) k3 2 f3, zVi (a0 13) k4 8 f4, zVi (a0 17) k5 2 f5, zVi (a0 18) k6 28 f6, zVi (a0 14) k7 8 f7, zVi (a0 15) k8 8 f8, zVi (a0 16) k9 8 f9]) hP hK hD hS hA ⟨hx, hb, hml, hown, hts⟩ (zf_X12_must l dC dI h0 3 a0 (zI (zI (zI (zI b0 6 o_17.2.1) 7 o_17.2.2.1) 8 s_25.1) 9 s_25.2) c0 k1 f1 k2 f2 o_26 hqo_26 H.size) (cwV 1 hts gX12_readsFormat_X12_must rfl rfl rfl zhd_X12_must ⟨Nat.le_of_ble_eq_true rfl, Nat.le_of_ble_eq_true rfl⟩) [0, 1, 2] rfl (of_decide_eq_true rfl) [0, 1] rfl rfl rfl rfl hl.1 rfl (Nat.le_of_ble_eq_true rfl) dX12_readsFormat_60 ⟨Nat.le_of_ble_eq_true rfl, Nat.le_of_ble_eq_true rfl⟩ [some 0, some 1, some 2] (of_decide_eq_true rfl) (of_decide_eq_true rfl) rfl rfl rfl (fun H locs hP hD hS => ?_)
    refine lv_aload_n hx hb dX12_readsFormat_63 rfl (lv_at hl 3 rfl) ?_
    refine lv_lconst (v := 0) hx hb dX12_readsFormat_64 (by decide +kernel) ?_
    refine lv_ldc2 (v := 999) hx hb hown (hts (.constantLong RX12 296 (999)) zw_X12_readsFormat_934) dX12_readsFormat_65 ?_
    obtain ⟨o_30, hqo_30, hfn⟩ := zb_s hfn
    refine zcVl (ci := 12) (rest := []) (pc' := 71) (ws' := [(h0, .inr (12, zO a0 (zI (zI (zI (zI b0 6 o_30.2.1) 7 o_30.2.2.1) 8 o_30.2.2.2.1) 9 o_30.2.2.2.2) c0)), zVi (a0 0) k1 1200 f1, zVi (a0 10) k2 71 f2, zVi (a0 12) k3 2 f3, zVi (a0 13) k4 8 f4, zVi (a0 17) k5 2 f5, zVi (a0 18) k6 28 f6, zVi (a0 14) k7 8 f7, zVi (a0 15) k8 8 f8, zVi (a0 16) k9 8 f9]) hP hK hD hS hA ⟨hx, hb, hml, hown, hts⟩ (zf_X12_number l dC dI h0 (0 : Int64) (999 : Int64) a0 (zI (zI (zI (zI b0 6 o_26.1) 7 o_26.2.1) 8 o_26.2.2.1) 9 o_26.2.2.2) c0 k1 f1 o_30 hqo_30 H.size) (cwV 2 hts gX12_readsFormat_X12_number rfl rfl rfl zhd_X12_number ⟨Nat.le_of_ble_eq_true rfl, Nat.le_of_ble_eq_true rfl⟩) [0, 1] rfl (of_decide_eq_true rfl) [0] rfl rfl rfl rfl hl.1 rfl (Nat.le_of_ble_eq_true rfl) dX12_readsFormat_68 ⟨Nat.le_of_ble_eq_true rfl, Nat.le_of_ble_eq_true rfl⟩ [some 0, some 1] (of_decide_eq_true rfl) (of_decide_eq_true rfl) rfl rfl rfl (fun H locs hP hD hS => ?_)
    refine lv_lstore (lv' := [(6, .long o_30.1), (4, .long o_17.1), (2, .long o_9.1), (1, .int o_1.1), (0, .ref h0)]) hx hb dX12_readsFormat_71 hl (of_decide_eq_true rfl) rfl (fun ls hl => ?_)
    refine lv_aload_n hx hb dX12_readsFormat_73 rfl (lv_at hl 4 rfl) ?_
    obtain ⟨o_34, hqo_34, hfn⟩ := zb_s hfn
    refine zcVb (ci := 12) (rest := []) (pc' := 77) (ws' := [(h0, .inr (12, zO a0 (zI (zI (zI (zI b0 6 o_30.2.1) 7 o_30.2.2.1) 8 o_30.2.2.2.1) 9 o_30.2.2.2.2) c0)), zVi (a0 0) k1 1200 f1, zVi (a0 10) k2 71 f2, zVi (a0 12) k3 2 f3, zVi (a0 13) k4 8 f4, zVi (a0 17) k5 2 f5, zVi (a0 18) k6 28 f6, zVi (a0 14) k7 8 f7, zVi (a0 15) k8 8 f8, zVi (a0 16) k9 8 f9]) hP hK hD hS hA ⟨hx, hb, hml, hown, hts⟩ (zf_X12_goesWell l dC dI h0 a0 (zI (zI (zI (zI b0 6 o_30.2.1) 7 o_30.2.2.1) 8 o_30.2.2.2.1) 9 o_30.2.2.2.2) c0 o_34 hqo_34 H.size) (cwV 0 hts gX12_readsFormat_X12_goesWell rfl rfl rfl zhd_X12_goesWell ⟨Nat.le_of_ble_eq_true rfl, Nat.le_of_ble_eq_true rfl⟩) [0] rfl (of_decide_eq_true rfl) [] rfl rfl rfl rfl hl.1 rfl (Nat.le_of_ble_eq_true rfl) dX12_readsFormat_74 ⟨Nat.le_of_ble_eq_true rfl, Nat.le_of_ble_eq_true rfl⟩ [some 0] (of_decide_eq_true rfl) (of_decide_eq_true rfl) rfl rfl rfl (fun H locs hw_37n hP hD hS => ?_)
    refine lv_if_ne (tgt := 81) hx hb dX12_readsFormat_77 (of_decide_eq_true rfl) (fun c_38 => ?_) (fun c_38 => ?_)
    · have hfn := (if_neg c_38).symm.trans hfn
      refine lv_aload_n hx hb dX12_readsFormat_81 rfl (lv_at hl 4 rfl) ?_
      refine lv_aload_n hx hb dX12_readsFormat_82 rfl (lv_at hl 4 rfl) ?_
      refine va_get (D := (dC, dI)) (ci := 12) (v := .ref (a0 12)) (C := RX12) (T := TX12) (N := 67) hx hb hts zn_X12_readsFormat_X12 hown hK hP 0 rfl rfl 12 (of_decide_eq_true rfl) (hts (.fieldLink RX12 47 "ShortEnoughModel" "formats" "[I") zw_X12_readsFormat_935) (fun _ h9 => h9) rfl dX12_readsFormat_83 ?_
      refine lv_aload_n hx hb dX12_readsFormat_86 rfl (lv_at hl 4 rfl) ?_
      refine va_get (D := (dC, dI)) (ci := 12) (v := .int (b0 11)) (C := RX12) (T := TX12) (N := 67) hx hb hts zn_X12_readsFormat_X12 hown hK hP 0 rfl rfl 11 (of_decide_eq_true rfl) (hts (.fieldLink RX12 44 "ShortEnoughModel" "in" "I") zw_X12_readsFormat_936) (fun _ h9 => h9) rfl dX12_readsFormat_87 ?_
      obtain ⟨h_39, hfn⟩ := zg_s hfn
      refine va_iald hx hb hK hP 3 2 rfl rfl h_39 dX12_readsFormat_90 ?_
      obtain ⟨o_40, hqo_40, hfn⟩ := zb_s hfn
      refine zcVi (ci := 12) (rest := []) (pc' := 94) (ws' := [(h0, .inr (12, zO a0 (zI (zI (zI (zI b0 6 o_30.2.1) 7 o_30.2.2.1) 8 o_30.2.2.2.1) 9 o_30.2.2.2.2) c0)), zVi (a0 0) k1 1200 f1, zVi (a0 10) k2 71 f2, zVi (a0 12) k3 2 f3, zVi (a0 13) k4 8 f4, zVi (a0 17) k5 2 f5, zVi (a0 18) k6 28 f6, zVi (a0 14) k7 8 f7, zVi (a0 15) k8 8 f8, zVi (a0 16) k9 8 f9]) hP hK hD hS hA ⟨hx, hb, hml, hown, hts⟩ (zf_X12_f l dC dI h0 (f3 (b0 11).toNatClampNeg) a0 (zI (zI (zI (zI b0 6 o_30.2.1) 7 o_30.2.2.1) 8 o_30.2.2.2.1) 9 o_30.2.2.2.2) c0 o_40 hqo_40 H.size) (cwV 1 hts gX12_readsFormat_X12_f rfl rfl rfl zhd_X12_f ⟨Nat.le_of_ble_eq_true rfl, Nat.le_of_ble_eq_true rfl⟩) [0] rfl (of_decide_eq_true rfl) [] rfl rfl rfl rfl hl.1 rfl (Nat.le_of_ble_eq_true rfl) dX12_readsFormat_91 ⟨Nat.le_of_ble_eq_true rfl, Nat.le_of_ble_eq_true rfl⟩ [some 0] (of_decide_eq_true rfl) (of_decide_eq_true rfl) rfl rfl rfl (fun H locs hP hD hS => ?_)
      refine lv_istore (lv' := [(8, .int o_40), (6, .long o_30.1), (4, .long o_17.1), (2, .long o_9.1), (1, .int o_1.1), (0, .ref h0)]) hx hb dX12_readsFormat_94 hl (of_decide_eq_true rfl) rfl (fun ls hl => ?_)
      refine lv_aload_n hx hb dX12_readsFormat_96 rfl (lv_at hl 5 rfl) ?_
      refine va_get (D := (dC, dI)) (ci := 12) (v := .ref (a0 13)) (C := RX12) (T := TX12) (N := 67) hx hb hts zn_X12_readsFormat_X12 hown hK hP 0 rfl rfl 13 (of_decide_eq_true rfl) (hts (.fieldLink RX12 50 "ShortEnoughModel" "formatName" "[I") zw_X12_readsFormat_937) (fun _ h9 => h9) rfl dX12_readsFormat_97 ?_
      refine lv_iload hx hb dX12_readsFormat_100 (lv_at hl 0 rfl) ?_
      refine lv_iload_n hx hb dX12_readsFormat_102 rfl (lv_at hl 4 rfl) ?_
      obtain ⟨h_44, hfn⟩ := zg_s hfn
      refine va_iast hx hb hK hP hD hS 4 3 rfl rfl h_44 dX12_readsFormat_103 (fun H locs hP hD hS => ?_)
      have hP : va_P (dC, dI) vwCl [(h0, .inr (12, zO a0 (zI (zI (zI (zI b0 6 o_30.2.1) 7 o_30.2.2.1) 8 o_30.2.2.2.1) 9 o_30.2.2.2.2) c0)), zVi (a0 0) k1 1200 f1, zVi (a0 10) k2 71 f2, zVi (a0 12) k3 2 f3, zVi (a0 13) k4 8 (upd f4 o_40.toNatClampNeg o_1.1), zVi (a0 17) k5 2 f5, zVi (a0 18) k6 28 f6, zVi (a0 14) k7 8 f7, zVi (a0 15) k8 8 f8, zVi (a0 16) k9 8 f9] H := hP
      have hD := zDW hD hP rfl
      refine lv_aload_n hx hb dX12_readsFormat_104 rfl (lv_at hl 5 rfl) ?_
      refine va_get (D := (dC, dI)) (ci := 12) (v := .ref (a0 14)) (C := RX12) (T := TX12) (N := 67) hx hb hts zn_X12_readsFormat_X12 hown hK hP 0 rfl rfl 14 (of_decide_eq_true rfl) (hts (.fieldLink RX12 53 "ShortEnoughModel" "step" "[I") zw_X12_readsFormat_938) (fun _ h9 => h9) rfl dX12_readsFormat_105 ?_
      refine lv_iload hx hb dX12_readsFormat_108 (lv_at hl 0 rfl) ?_
      refine lv_lload_n hx hb dX12_readsFormat_110 rfl (lv_at hl 3 rfl) ?_
      refine lv_l2i (v := o_9.1.toInt32) hx hb dX12_readsFormat_111 rfl ?_
      refine va_iast hx hb hK hP hD hS 7 6 rfl rfl h_44 dX12_readsFormat_112 (fun H locs hP hD hS => ?_)
      have hP : va_P (dC, dI) vwCl [(h0, .inr (12, zO a0 (zI (zI (zI (zI b0 6 o_30.2.1) 7 o_30.2.2.1) 8 o_30.2.2.2.1) 9 o_30.2.2.2.2) c0)), zVi (a0 0) k1 1200 f1, zVi (a0 10) k2 71 f2, zVi (a0 12) k3 2 f3, zVi (a0 13) k4 8 (upd f4 o_40.toNatClampNeg o_1.1), zVi (a0 17) k5 2 f5, zVi (a0 18) k6 28 f6, zVi (a0 14) k7 8 (upd f7 o_40.toNatClampNeg o_9.1.toInt32), zVi (a0 15) k8 8 f8, zVi (a0 16) k9 8 f9] H := hP
      have hD := zDW hD hP rfl
      refine lv_aload_n hx hb dX12_readsFormat_113 rfl (lv_at hl 5 rfl) ?_
      refine va_get (D := (dC, dI)) (ci := 12) (v := .ref (a0 15)) (C := RX12) (T := TX12) (N := 67) hx hb hts zn_X12_readsFormat_X12 hown hK hP 0 rfl rfl 15 (of_decide_eq_true rfl) (hts (.fieldLink RX12 56 "ShortEnoughModel" "most" "[I") zw_X12_readsFormat_939) (fun _ h9 => h9) rfl dX12_readsFormat_114 ?_
      refine lv_iload hx hb dX12_readsFormat_117 (lv_at hl 0 rfl) ?_
      refine lv_lload hx hb dX12_readsFormat_119 (lv_at hl 2 rfl) ?_
      refine lv_l2i (v := o_17.1.toInt32) hx hb dX12_readsFormat_121 rfl ?_
      refine va_iast hx hb hK hP hD hS 8 7 rfl rfl h_44 dX12_readsFormat_122 (fun H locs hP hD hS => ?_)
      have hP : va_P (dC, dI) vwCl [(h0, .inr (12, zO a0 (zI (zI (zI (zI b0 6 o_30.2.1) 7 o_30.2.2.1) 8 o_30.2.2.2.1) 9 o_30.2.2.2.2) c0)), zVi (a0 0) k1 1200 f1, zVi (a0 10) k2 71 f2, zVi (a0 12) k3 2 f3, zVi (a0 13) k4 8 (upd f4 o_40.toNatClampNeg o_1.1), zVi (a0 17) k5 2 f5, zVi (a0 18) k6 28 f6, zVi (a0 14) k7 8 (upd f7 o_40.toNatClampNeg o_9.1.toInt32), zVi (a0 15) k8 8 (upd f8 o_40.toNatClampNeg o_17.1.toInt32), zVi (a0 16) k9 8 f9] H := hP
      have hD := zDW hD hP rfl
      refine lv_aload_n hx hb dX12_readsFormat_123 rfl (lv_at hl 5 rfl) ?_
      refine va_get (D := (dC, dI)) (ci := 12) (v := .ref (a0 16)) (C := RX12) (T := TX12) (N := 67) hx hb hts zn_X12_readsFormat_X12 hown hK hP 0 rfl rfl 16 (of_decide_eq_true rfl) (hts (.fieldLink RX12 59 "ShortEnoughModel" "formatCost" "[I") zw_X12_readsFormat_940) (fun _ h9 => h9) rfl dX12_readsFormat_124 ?_
      refine lv_iload hx hb dX12_readsFormat_127 (lv_at hl 0 rfl) ?_
      refine lv_lload hx hb dX12_readsFormat_129 (lv_at hl 1 rfl) ?_
      refine lv_l2i (v := o_30.1.toInt32) hx hb dX12_readsFormat_131 rfl ?_
      refine va_iast hx hb hK hP hD hS 9 8 rfl rfl h_44 dX12_readsFormat_132 (fun H locs hP hD hS => ?_)
      have hP : va_P (dC, dI) vwCl [(h0, .inr (12, zO a0 (zI (zI (zI (zI b0 6 o_30.2.1) 7 o_30.2.2.1) 8 o_30.2.2.2.1) 9 o_30.2.2.2.2) c0)), zVi (a0 0) k1 1200 f1, zVi (a0 10) k2 71 f2, zVi (a0 12) k3 2 f3, zVi (a0 13) k4 8 (upd f4 o_40.toNatClampNeg o_1.1), zVi (a0 17) k5 2 f5, zVi (a0 18) k6 28 f6, zVi (a0 14) k7 8 (upd f7 o_40.toNatClampNeg o_9.1.toInt32), zVi (a0 15) k8 8 (upd f8 o_40.toNatClampNeg o_17.1.toInt32), zVi (a0 16) k9 8 (upd f9 o_40.toNatClampNeg o_30.1.toInt32)] H := hP
      have hD := zDW hD hP rfl
      refine lv_aload_n hx hb dX12_readsFormat_133 rfl (lv_at hl 5 rfl) ?_
      refine va_get (D := (dC, dI)) (ci := 12) (v := .ref (a0 12)) (C := RX12) (T := TX12) (N := 67) hx hb hts zn_X12_readsFormat_X12 hown hK hP 0 rfl rfl 12 (of_decide_eq_true rfl) (hts (.fieldLink RX12 47 "ShortEnoughModel" "formats" "[I") zw_X12_readsFormat_935) (fun _ h9 => h9) rfl dX12_readsFormat_134 ?_
      refine lv_aload_n hx hb dX12_readsFormat_137 rfl (lv_at hl 5 rfl) ?_
      refine va_get (D := (dC, dI)) (ci := 12) (v := .int (b0 11)) (C := RX12) (T := TX12) (N := 67) hx hb hts zn_X12_readsFormat_X12 hown hK hP 0 rfl rfl 11 (of_decide_eq_true rfl) (hts (.fieldLink RX12 44 "ShortEnoughModel" "in" "I") zw_X12_readsFormat_936) (fun _ h9 => h9) rfl dX12_readsFormat_138 ?_
      refine lv_dup2_11 hx hb dX12_readsFormat_141 rfl rfl ?_
      refine va_iald hx hb hK hP 3 2 rfl rfl h_39 dX12_readsFormat_142 ?_
      refine lv_iconst (v := 1) hx hb dX12_readsFormat_143 zci_1 ?_
      refine lv_iadd hx hb dX12_readsFormat_144 ?_
      refine va_iast hx hb hK hP hD hS 3 2 rfl rfl h_39 dX12_readsFormat_145 (fun H locs hP hD hS => ?_)
      have hP : va_P (dC, dI) vwCl [(h0, .inr (12, zO a0 (zI (zI (zI (zI b0 6 o_30.2.1) 7 o_30.2.2.1) 8 o_30.2.2.2.1) 9 o_30.2.2.2.2) c0)), zVi (a0 0) k1 1200 f1, zVi (a0 10) k2 71 f2, zVi (a0 12) k3 2 (upd f3 (b0 11).toNatClampNeg ((f3 (b0 11).toNatClampNeg) + 1)), zVi (a0 13) k4 8 (upd f4 o_40.toNatClampNeg o_1.1), zVi (a0 17) k5 2 f5, zVi (a0 18) k6 28 f6, zVi (a0 14) k7 8 (upd f7 o_40.toNatClampNeg o_9.1.toInt32), zVi (a0 15) k8 8 (upd f8 o_40.toNatClampNeg o_17.1.toInt32), zVi (a0 16) k9 8 (upd f9 o_40.toNatClampNeg o_30.1.toInt32)] H := hP
      have hD := zDW hD hP rfl
      have ho := Option.some.inj hfn
      subst ho
      exact zrv hx hb hr hK hP hD hS hQ trivial hlocks dX12_readsFormat_146
    have hfn := (if_pos c_38).symm.trans hfn
    have ho := Option.some.inj hfn
    subst ho
    exact zrv hx hb hr hK hP hD hS hQ trivial hlocks dX12_readsFormat_80
  refine lv_if_eq (tgt := 58) hx hb dX12_readsFormat_34 (of_decide_eq_true rfl) (fun c_45 => ?_) (fun c_45 => ?_)
  · have hfn := (if_pos c_45).symm.trans hfn
    exact jp_25 (o_17.2.2.2.1, o_17.2.2.2.2) H locs ls hfn hP hD hS (lv_sub hl [0, 1, 2, 3] rfl)
  have hfn := (if_neg c_45).symm.trans hfn
  refine lv_lload hx hb dX12_readsFormat_37 (lv_at hl 0 rfl) ?_
  refine lv_lconst (v := 1) hx hb dX12_readsFormat_39 (by decide +kernel) ?_
  refine lv_ldc2 (v := 1000000000) hx hb hown (hts (.constantLong RX12 294 (1000000000)) zw_X12_readsFormat_931) dX12_readsFormat_40 ?_
  obtain ⟨o_46, hqo_46, hfn⟩ := zb_s hfn
  refine zcSb (rest := []) (pc' := 46) (ws' := [(h0, .inr (12, zO a0 (zI (zI (zI (zI b0 6 o_17.2.1) 7 o_17.2.2.1) 8 o_17.2.2.2.1) 9 o_17.2.2.2.2) c0)), zVi (a0 0) k1 1200 f1, zVi (a0 10) k2 71 f2, zVi (a0 12) k3 2 f3, zVi (a0 13) k4 8 f4, zVi (a0 17) k5 2 f5, zVi (a0 18) k6 28 f6, zVi (a0 14) k7 8 f7, zVi (a0 15) k8 8 f8, zVi (a0 16) k9 8 f9]) hP hK hD hS hA ⟨hx, hb, hml, hown, hts⟩ (zf_X12_isIn l dC dI o_17.1 (1 : Int64) (1000000000 : Int64) o_46 hqo_46 H.size) (va_cwS 3 hts gX12_readsFormat_X12_isIn rfl rfl rfl zhd_X12_isIn.2 ⟨Nat.le_of_ble_eq_true rfl, Nat.le_of_ble_eq_true rfl⟩) [] rfl (of_decide_eq_true rfl) [] rfl rfl hl.1 rfl (Nat.le_of_ble_eq_true rfl) dX12_readsFormat_43 ⟨Nat.le_of_ble_eq_true rfl, Nat.le_of_ble_eq_true rfl⟩ [] (of_decide_eq_true rfl) (of_decide_eq_true rfl) rfl rfl rfl (fun H locs hw_49n hP hD hS => ?_)
  refine lv_if_ne (tgt := 58) hx hb dX12_readsFormat_46 (of_decide_eq_true rfl) (fun c_50 => ?_) (fun c_50 => ?_)
  · have hfn := (if_neg c_50).symm.trans hfn
    exact jp_25 (o_17.2.2.2.1, o_17.2.2.2.2) H locs ls hfn hP hD hS (lv_sub hl [0, 1, 2, 3] rfl)
  have hfn := (if_pos c_50).symm.trans hfn
  refine lv_aload_n hx hb dX12_readsFormat_49 rfl (lv_at hl 3 rfl) ?_
  refine lv_iconst (v := 2) hx hb dX12_readsFormat_50 zci_2 ?_
  refine lv_aload_n hx hb dX12_readsFormat_51 rfl (lv_at hl 3 rfl) ?_
  refine va_get (D := (dC, dI)) (ci := 12) (v := .int o_17.2.2.1) (C := RX12) (T := TX12) (N := 67) hx hb hts zn_X12_readsFormat_X12 hown hK hP 0 rfl rfl 7 (of_decide_eq_true rfl) (hts (.fieldLink RX12 32 "ShortEnoughModel" "begun" "I") zw_X12_readsFormat_933) (fun _ h9 => h9) rfl dX12_readsFormat_52 ?_
  obtain ⟨o_51, hqo_51, hfn⟩ := zb_s hfn
  refine zcVv (ci := 12) (rest := []) (pc' := 58) (ws' := [(h0, .inr (12, zO a0 (zI (zI (zI (zI b0 6 o_17.2.1) 7 o_17.2.2.1) 8 o_51.1) 9 o_51.2) c0)), zVi (a0 0) k1 1200 f1, zVi (a0 10) k2 71 f2, zVi (a0 12) k3 2 f3, zVi (a0 13) k4 8 f4, zVi (a0 17) k5 2 f5, zVi (a0 18) k6 28 f6, zVi (a0 14) k7 8 f7, zVi (a0 15) k8 8 f8, zVi (a0 16) k9 8 f9]) hP hK hD hS hA ⟨hx, hb, hml, hown, hts⟩ (zf_X12_faults l dC dI h0 2 o_17.2.2.1 a0 (zI (zI (zI (zI b0 6 o_17.2.1) 7 o_17.2.2.1) 8 o_17.2.2.2.1) 9 o_17.2.2.2.2) c0 o_51 hqo_51 H.size) (cwV 2 hts gX12_readsFormat_X12_faults rfl rfl rfl zhd_X12_faults ⟨Nat.le_of_ble_eq_true rfl, Nat.le_of_ble_eq_true rfl⟩) [0] rfl (of_decide_eq_true rfl) [] rfl rfl rfl rfl hl.1 rfl (Nat.le_of_ble_eq_true rfl) dX12_readsFormat_55 ⟨Nat.le_of_ble_eq_true rfl, Nat.le_of_ble_eq_true rfl⟩ [some 0] (of_decide_eq_true rfl) (of_decide_eq_true rfl) rfl rfl rfl (fun H locs hP hD hS => ?_)
  exact jp_25 (o_51.1, o_51.2) H locs ls hfn hP hD hS (lv_sub hl [0, 1, 2, 3] rfl)
theorem zn_X12_newNumber_X12 : ∀ w ∈ wsX120, w ∈ wsX12_newNumber := fun _ h => List.mem_cons_of_mem _ (List.mem_append_right _ h)
theorem zw_X12_newNumber_942 : Cond.fieldLink RX12 62 "ShortEnoughModel" "numbers" "[I" ∈ wsX12_newNumber := List.mem_of_getElem? (i := 1) (by decide +kernel)
theorem zw_X12_newNumber_943 : Cond.fieldLink RX12 44 "ShortEnoughModel" "in" "I" ∈ wsX12_newNumber := List.mem_of_getElem? (i := 2) (by decide +kernel)
theorem zw_X12_newNumber_944 : Cond.fieldLink RX12 65 "ShortEnoughModel" "numberName" "[I" ∈ wsX12_newNumber := List.mem_of_getElem? (i := 3) (by decide +kernel)
theorem zw_X12_newNumber_945 : Cond.fieldLink RX12 68 "ShortEnoughModel" "op" "[I" ∈ wsX12_newNumber := List.mem_of_getElem? (i := 4) (by decide +kernel)
theorem zw_X12_newNumber_946 : Cond.fieldLink RX12 71 "ShortEnoughModel" "first" "[I" ∈ wsX12_newNumber := List.mem_of_getElem? (i := 5) (by decide +kernel)
theorem zw_X12_newNumber_947 : Cond.fieldLink RX12 74 "ShortEnoughModel" "second" "[I" ∈ wsX12_newNumber := List.mem_of_getElem? (i := 6) (by decide +kernel)
theorem zw_X12_newNumber_948 : Cond.fieldLink RX12 87 "ShortEnoughModel" "fixedAs" "[I" ∈ wsX12_newNumber := List.mem_of_getElem? (i := 7) (by decide +kernel)
theorem zw_X12_newNumber_949 : Cond.fieldLink RX12 90 "ShortEnoughModel" "within" "[I" ∈ wsX12_newNumber := List.mem_of_getElem? (i := 8) (by decide +kernel)
theorem zw_X12_newNumber_950 : Cond.fieldLink RX12 93 "ShortEnoughModel" "groupOf" "[I" ∈ wsX12_newNumber := List.mem_of_getElem? (i := 9) (by decide +kernel)
set_option maxHeartbeats 4000000 in
set_option maxRecDepth 100000 in
theorem zf_X12_newNumber (l : Launch) (dC : Nat → ClassId) (dI : Nat → Nat → Nat) (h0 : Nat) (p1 : Int32) (p2 : Int32) (a0 : Nat → Nat) (b0 : Nat → Int32) (c0 : Nat → Int64) (k1 : Nat) (f1 : Nat → Int32) (k2 : Nat) (f2 : Nat → Int32) (k3 : Nat) (f3 : Nat → Int32) (k4 : Nat) (f4 : Nat → Int32) (k5 : Nat) (f5 : Nat → Int32) (k6 : Nat) (f6 : Nat → Int32) (k7 : Nat) (f7 : Nat → Int32) (k8 : Nat) (f8 : Nat → Int32) (o : (Nat → Int32) × (Nat → Int32) × (Nat → Int32) × (Nat → Int32) × (Nat → Int32) × (Nat → Int32) × (Nat → Int32)) (hfn : fn_X12_newNumber p1 p2 (b0 11) f1 f2 f3 f4 f5 f6 f7 f8 = some o) (sz : Nat) : zMv l yX12_newNumber wsX12_newNumber ({ frames := 1, cells := 0, slots := 0, locals := 21 }) (dC, dI) vwCl [.ref h0, .int p1, .int p2] [(h0, .inr (12, zO a0 b0 c0)), zVi (a0 17) k1 2 f1, zVi (a0 18) k2 28 f2, zVi (a0 19) k3 28 f3, zVi (a0 20) k4 28 f4, zVi (a0 21) k5 28 f5, zVi (a0 25) k6 28 f6, zVi (a0 26) k7 28 f7, zVi (a0 27) k8 28 f8] [(k1, .int), (k2, .int), (k3, .int), (k4, .int), (k5, .int), (k6, .int), (k7, .int), (k8, .int)] (fun _ => True) [(h0, .inr (12, zO a0 b0 c0)), zVi (a0 17) k1 2 f1, zVi (a0 18) k2 28 o.1, zVi (a0 19) k3 28 o.2.1, zVi (a0 20) k4 28 o.2.2.1, zVi (a0 21) k5 28 o.2.2.2.1, zVi (a0 25) k6 28 o.2.2.2.2.1, zVi (a0 26) k7 28 o.2.2.2.2.2.1, zVi (a0 27) k8 28 o.2.2.2.2.2.2] [(k1, .int), (k2, .int), (k3, .int), (k4, .int), (k5, .int), (k6, .int), (k7, .int), (k8, .int)] sz := by
  refine zgov (cc := cX12_newNumber) (maxL := 4) (ret := none) (C0 := RX12) (lv0 := [(0, .ref h0), (1, .int p1), (2, .int p2)]) zpl_X12 rfl rfl rfl (Nat.le_of_ble_eq_true rfl) ?_
  intro p e s m below meth c A ls Q hx hb hr hts hown hlocks hml hP hK hD hA hS hl hQ
  unfold fn_X12_newNumber at hfn
  refine lv_aload_n hx hb dX12_newNumber_0 rfl (lv_at hl 0 rfl) ?_
  refine va_get (D := (dC, dI)) (ci := 12) (v := .ref (a0 17)) (C := RX12) (T := TX12) (N := 67) hx hb hts zn_X12_newNumber_X12 hown hK hP 0 rfl rfl 17 (of_decide_eq_true rfl) (hts (.fieldLink RX12 62 "ShortEnoughModel" "numbers" "[I") zw_X12_newNumber_942) (fun _ h9 => h9) rfl dX12_newNumber_1 ?_
  refine lv_aload_n hx hb dX12_newNumber_4 rfl (lv_at hl 0 rfl) ?_
  refine va_get (D := (dC, dI)) (ci := 12) (v := .int (b0 11)) (C := RX12) (T := TX12) (N := 67) hx hb hts zn_X12_newNumber_X12 hown hK hP 0 rfl rfl 11 (of_decide_eq_true rfl) (hts (.fieldLink RX12 44 "ShortEnoughModel" "in" "I") zw_X12_newNumber_943) (fun _ h9 => h9) rfl dX12_newNumber_5 ?_
  obtain ⟨h_1, hfn⟩ := zg_s hfn
  refine va_iald hx hb hK hP 1 0 rfl rfl h_1 dX12_newNumber_8 ?_
  refine lv_istore_n (lv' := [(3, .int (f1 (b0 11).toNatClampNeg)), (0, .ref h0), (1, .int p1), (2, .int p2)]) hx hb dX12_newNumber_9 rfl hl (of_decide_eq_true rfl) rfl (fun ls hl => ?_)
  refine lv_aload_n hx hb dX12_newNumber_10 rfl (lv_at hl 1 rfl) ?_
  refine va_get (D := (dC, dI)) (ci := 12) (v := .ref (a0 18)) (C := RX12) (T := TX12) (N := 67) hx hb hts zn_X12_newNumber_X12 hown hK hP 0 rfl rfl 18 (of_decide_eq_true rfl) (hts (.fieldLink RX12 65 "ShortEnoughModel" "numberName" "[I") zw_X12_newNumber_944) (fun _ h9 => h9) rfl dX12_newNumber_11 ?_
  refine lv_aload_n hx hb dX12_newNumber_14 rfl (lv_at hl 1 rfl) ?_
  refine lv_iload_n hx hb dX12_newNumber_15 rfl (lv_at hl 0 rfl) ?_
  obtain ⟨o_2, hqo_2, hfn⟩ := zb_s hfn
  refine zcVi (ci := 12) (rest := [.ref (a0 18)]) (pc' := 19) (ws' := [(h0, .inr (12, zO a0 b0 c0)), zVi (a0 17) k1 2 f1, zVi (a0 18) k2 28 f2, zVi (a0 19) k3 28 f3, zVi (a0 20) k4 28 f4, zVi (a0 21) k5 28 f5, zVi (a0 25) k6 28 f6, zVi (a0 26) k7 28 f7, zVi (a0 27) k8 28 f8]) hP hK hD hS hA ⟨hx, hb, hml, hown, hts⟩ (zf_X12_n l dC dI h0 (f1 (b0 11).toNatClampNeg) a0 b0 c0 o_2 hqo_2 s.heap.size) (cwV 1 hts gX12_newNumber_X12_n rfl rfl rfl zhd_X12_n ⟨Nat.le_of_ble_eq_true rfl, Nat.le_of_ble_eq_true rfl⟩) [0] rfl (of_decide_eq_true rfl) [] rfl rfl rfl rfl hl.1 rfl (Nat.le_of_ble_eq_true rfl) dX12_newNumber_16 ⟨Nat.le_of_ble_eq_true rfl, Nat.le_of_ble_eq_true rfl⟩ [some 0] (of_decide_eq_true rfl) (of_decide_eq_true rfl) rfl rfl rfl (fun H locs hP hD hS => ?_)
  refine lv_iload_n hx hb dX12_newNumber_19 rfl (lv_at hl 2 rfl) ?_
  obtain ⟨h_6, hfn⟩ := zg_s hfn
  refine va_iast hx hb hK hP hD hS 2 1 rfl rfl h_6 dX12_newNumber_20 (fun H locs hP hD hS => ?_)
  have hP : va_P (dC, dI) vwCl [(h0, .inr (12, zO a0 b0 c0)), zVi (a0 17) k1 2 f1, zVi (a0 18) k2 28 (upd f2 o_2.toNatClampNeg p1), zVi (a0 19) k3 28 f3, zVi (a0 20) k4 28 f4, zVi (a0 21) k5 28 f5, zVi (a0 25) k6 28 f6, zVi (a0 26) k7 28 f7, zVi (a0 27) k8 28 f8] H := hP
  have hD := zDW hD hP rfl
  refine lv_aload_n hx hb dX12_newNumber_21 rfl (lv_at hl 1 rfl) ?_
  refine va_get (D := (dC, dI)) (ci := 12) (v := .ref (a0 19)) (C := RX12) (T := TX12) (N := 67) hx hb hts zn_X12_newNumber_X12 hown hK hP 0 rfl rfl 19 (of_decide_eq_true rfl) (hts (.fieldLink RX12 68 "ShortEnoughModel" "op" "[I") zw_X12_newNumber_945) (fun _ h9 => h9) rfl dX12_newNumber_22 ?_
  refine lv_aload_n hx hb dX12_newNumber_25 rfl (lv_at hl 1 rfl) ?_
  refine lv_iload_n hx hb dX12_newNumber_26 rfl (lv_at hl 0 rfl) ?_
  obtain ⟨o_7, hqo_7, hfn⟩ := zb_s hfn
  refine zcVi (ci := 12) (rest := [.ref (a0 19)]) (pc' := 30) (ws' := [(h0, .inr (12, zO a0 b0 c0)), zVi (a0 17) k1 2 f1, zVi (a0 18) k2 28 (upd f2 o_2.toNatClampNeg p1), zVi (a0 19) k3 28 f3, zVi (a0 20) k4 28 f4, zVi (a0 21) k5 28 f5, zVi (a0 25) k6 28 f6, zVi (a0 26) k7 28 f7, zVi (a0 27) k8 28 f8]) hP hK hD hS hA ⟨hx, hb, hml, hown, hts⟩ (zf_X12_n l dC dI h0 (f1 (b0 11).toNatClampNeg) a0 b0 c0 o_7 hqo_7 H.size) (cwV 1 hts gX12_newNumber_X12_n rfl rfl rfl zhd_X12_n ⟨Nat.le_of_ble_eq_true rfl, Nat.le_of_ble_eq_true rfl⟩) [0] rfl (of_decide_eq_true rfl) [] rfl rfl rfl rfl hl.1 rfl (Nat.le_of_ble_eq_true rfl) dX12_newNumber_27 ⟨Nat.le_of_ble_eq_true rfl, Nat.le_of_ble_eq_true rfl⟩ [some 0] (of_decide_eq_true rfl) (of_decide_eq_true rfl) rfl rfl rfl (fun H locs hP hD hS => ?_)
  refine lv_iload_n hx hb dX12_newNumber_30 rfl (lv_at hl 3 rfl) ?_
  obtain ⟨h_11, hfn⟩ := zg_s hfn
  refine va_iast hx hb hK hP hD hS 3 2 rfl rfl h_11 dX12_newNumber_31 (fun H locs hP hD hS => ?_)
  have hP : va_P (dC, dI) vwCl [(h0, .inr (12, zO a0 b0 c0)), zVi (a0 17) k1 2 f1, zVi (a0 18) k2 28 (upd f2 o_2.toNatClampNeg p1), zVi (a0 19) k3 28 (upd f3 o_7.toNatClampNeg p2), zVi (a0 20) k4 28 f4, zVi (a0 21) k5 28 f5, zVi (a0 25) k6 28 f6, zVi (a0 26) k7 28 f7, zVi (a0 27) k8 28 f8] H := hP
  have hD := zDW hD hP rfl
  refine lv_aload_n hx hb dX12_newNumber_32 rfl (lv_at hl 1 rfl) ?_
  refine va_get (D := (dC, dI)) (ci := 12) (v := .ref (a0 20)) (C := RX12) (T := TX12) (N := 67) hx hb hts zn_X12_newNumber_X12 hown hK hP 0 rfl rfl 20 (of_decide_eq_true rfl) (hts (.fieldLink RX12 71 "ShortEnoughModel" "first" "[I") zw_X12_newNumber_946) (fun _ h9 => h9) rfl dX12_newNumber_33 ?_
  refine lv_aload_n hx hb dX12_newNumber_36 rfl (lv_at hl 1 rfl) ?_
  refine lv_iload_n hx hb dX12_newNumber_37 rfl (lv_at hl 0 rfl) ?_
  obtain ⟨o_12, hqo_12, hfn⟩ := zb_s hfn
  refine zcVi (ci := 12) (rest := [.ref (a0 20)]) (pc' := 41) (ws' := [(h0, .inr (12, zO a0 b0 c0)), zVi (a0 17) k1 2 f1, zVi (a0 18) k2 28 (upd f2 o_2.toNatClampNeg p1), zVi (a0 19) k3 28 (upd f3 o_7.toNatClampNeg p2), zVi (a0 20) k4 28 f4, zVi (a0 21) k5 28 f5, zVi (a0 25) k6 28 f6, zVi (a0 26) k7 28 f7, zVi (a0 27) k8 28 f8]) hP hK hD hS hA ⟨hx, hb, hml, hown, hts⟩ (zf_X12_n l dC dI h0 (f1 (b0 11).toNatClampNeg) a0 b0 c0 o_12 hqo_12 H.size) (cwV 1 hts gX12_newNumber_X12_n rfl rfl rfl zhd_X12_n ⟨Nat.le_of_ble_eq_true rfl, Nat.le_of_ble_eq_true rfl⟩) [0] rfl (of_decide_eq_true rfl) [] rfl rfl rfl rfl hl.1 rfl (Nat.le_of_ble_eq_true rfl) dX12_newNumber_38 ⟨Nat.le_of_ble_eq_true rfl, Nat.le_of_ble_eq_true rfl⟩ [some 0] (of_decide_eq_true rfl) (of_decide_eq_true rfl) rfl rfl rfl (fun H locs hP hD hS => ?_)
  refine lv_iconst (v := (-1)) hx hb dX12_newNumber_41 zci_m1 ?_
  obtain ⟨h_16, hfn⟩ := zg_s hfn
  refine va_iast hx hb hK hP hD hS 4 3 rfl rfl h_16 dX12_newNumber_42 (fun H locs hP hD hS => ?_)
  have hP : va_P (dC, dI) vwCl [(h0, .inr (12, zO a0 b0 c0)), zVi (a0 17) k1 2 f1, zVi (a0 18) k2 28 (upd f2 o_2.toNatClampNeg p1), zVi (a0 19) k3 28 (upd f3 o_7.toNatClampNeg p2), zVi (a0 20) k4 28 (upd f4 o_12.toNatClampNeg (-1)), zVi (a0 21) k5 28 f5, zVi (a0 25) k6 28 f6, zVi (a0 26) k7 28 f7, zVi (a0 27) k8 28 f8] H := hP
  have hD := zDW hD hP rfl
  refine lv_aload_n hx hb dX12_newNumber_43 rfl (lv_at hl 1 rfl) ?_
  refine va_get (D := (dC, dI)) (ci := 12) (v := .ref (a0 21)) (C := RX12) (T := TX12) (N := 67) hx hb hts zn_X12_newNumber_X12 hown hK hP 0 rfl rfl 21 (of_decide_eq_true rfl) (hts (.fieldLink RX12 74 "ShortEnoughModel" "second" "[I") zw_X12_newNumber_947) (fun _ h9 => h9) rfl dX12_newNumber_44 ?_
  refine lv_aload_n hx hb dX12_newNumber_47 rfl (lv_at hl 1 rfl) ?_
  refine lv_iload_n hx hb dX12_newNumber_48 rfl (lv_at hl 0 rfl) ?_
  obtain ⟨o_17, hqo_17, hfn⟩ := zb_s hfn
  refine zcVi (ci := 12) (rest := [.ref (a0 21)]) (pc' := 52) (ws' := [(h0, .inr (12, zO a0 b0 c0)), zVi (a0 17) k1 2 f1, zVi (a0 18) k2 28 (upd f2 o_2.toNatClampNeg p1), zVi (a0 19) k3 28 (upd f3 o_7.toNatClampNeg p2), zVi (a0 20) k4 28 (upd f4 o_12.toNatClampNeg (-1)), zVi (a0 21) k5 28 f5, zVi (a0 25) k6 28 f6, zVi (a0 26) k7 28 f7, zVi (a0 27) k8 28 f8]) hP hK hD hS hA ⟨hx, hb, hml, hown, hts⟩ (zf_X12_n l dC dI h0 (f1 (b0 11).toNatClampNeg) a0 b0 c0 o_17 hqo_17 H.size) (cwV 1 hts gX12_newNumber_X12_n rfl rfl rfl zhd_X12_n ⟨Nat.le_of_ble_eq_true rfl, Nat.le_of_ble_eq_true rfl⟩) [0] rfl (of_decide_eq_true rfl) [] rfl rfl rfl rfl hl.1 rfl (Nat.le_of_ble_eq_true rfl) dX12_newNumber_49 ⟨Nat.le_of_ble_eq_true rfl, Nat.le_of_ble_eq_true rfl⟩ [some 0] (of_decide_eq_true rfl) (of_decide_eq_true rfl) rfl rfl rfl (fun H locs hP hD hS => ?_)
  refine lv_iconst (v := (-1)) hx hb dX12_newNumber_52 zci_m1 ?_
  obtain ⟨h_21, hfn⟩ := zg_s hfn
  refine va_iast hx hb hK hP hD hS 5 4 rfl rfl h_21 dX12_newNumber_53 (fun H locs hP hD hS => ?_)
  have hP : va_P (dC, dI) vwCl [(h0, .inr (12, zO a0 b0 c0)), zVi (a0 17) k1 2 f1, zVi (a0 18) k2 28 (upd f2 o_2.toNatClampNeg p1), zVi (a0 19) k3 28 (upd f3 o_7.toNatClampNeg p2), zVi (a0 20) k4 28 (upd f4 o_12.toNatClampNeg (-1)), zVi (a0 21) k5 28 (upd f5 o_17.toNatClampNeg (-1)), zVi (a0 25) k6 28 f6, zVi (a0 26) k7 28 f7, zVi (a0 27) k8 28 f8] H := hP
  have hD := zDW hD hP rfl
  refine lv_aload_n hx hb dX12_newNumber_54 rfl (lv_at hl 1 rfl) ?_
  refine va_get (D := (dC, dI)) (ci := 12) (v := .ref (a0 25)) (C := RX12) (T := TX12) (N := 67) hx hb hts zn_X12_newNumber_X12 hown hK hP 0 rfl rfl 25 (of_decide_eq_true rfl) (hts (.fieldLink RX12 87 "ShortEnoughModel" "fixedAs" "[I") zw_X12_newNumber_948) (fun _ h9 => h9) rfl dX12_newNumber_55 ?_
  refine lv_aload_n hx hb dX12_newNumber_58 rfl (lv_at hl 1 rfl) ?_
  refine lv_iload_n hx hb dX12_newNumber_59 rfl (lv_at hl 0 rfl) ?_
  obtain ⟨o_22, hqo_22, hfn⟩ := zb_s hfn
  refine zcVi (ci := 12) (rest := [.ref (a0 25)]) (pc' := 63) (ws' := [(h0, .inr (12, zO a0 b0 c0)), zVi (a0 17) k1 2 f1, zVi (a0 18) k2 28 (upd f2 o_2.toNatClampNeg p1), zVi (a0 19) k3 28 (upd f3 o_7.toNatClampNeg p2), zVi (a0 20) k4 28 (upd f4 o_12.toNatClampNeg (-1)), zVi (a0 21) k5 28 (upd f5 o_17.toNatClampNeg (-1)), zVi (a0 25) k6 28 f6, zVi (a0 26) k7 28 f7, zVi (a0 27) k8 28 f8]) hP hK hD hS hA ⟨hx, hb, hml, hown, hts⟩ (zf_X12_n l dC dI h0 (f1 (b0 11).toNatClampNeg) a0 b0 c0 o_22 hqo_22 H.size) (cwV 1 hts gX12_newNumber_X12_n rfl rfl rfl zhd_X12_n ⟨Nat.le_of_ble_eq_true rfl, Nat.le_of_ble_eq_true rfl⟩) [0] rfl (of_decide_eq_true rfl) [] rfl rfl rfl rfl hl.1 rfl (Nat.le_of_ble_eq_true rfl) dX12_newNumber_60 ⟨Nat.le_of_ble_eq_true rfl, Nat.le_of_ble_eq_true rfl⟩ [some 0] (of_decide_eq_true rfl) (of_decide_eq_true rfl) rfl rfl rfl (fun H locs hP hD hS => ?_)
  refine lv_iconst (v := (-1)) hx hb dX12_newNumber_63 zci_m1 ?_
  obtain ⟨h_26, hfn⟩ := zg_s hfn
  refine va_iast hx hb hK hP hD hS 6 5 rfl rfl h_26 dX12_newNumber_64 (fun H locs hP hD hS => ?_)
  have hP : va_P (dC, dI) vwCl [(h0, .inr (12, zO a0 b0 c0)), zVi (a0 17) k1 2 f1, zVi (a0 18) k2 28 (upd f2 o_2.toNatClampNeg p1), zVi (a0 19) k3 28 (upd f3 o_7.toNatClampNeg p2), zVi (a0 20) k4 28 (upd f4 o_12.toNatClampNeg (-1)), zVi (a0 21) k5 28 (upd f5 o_17.toNatClampNeg (-1)), zVi (a0 25) k6 28 (upd f6 o_22.toNatClampNeg (-1)), zVi (a0 26) k7 28 f7, zVi (a0 27) k8 28 f8] H := hP
  have hD := zDW hD hP rfl
  refine lv_aload_n hx hb dX12_newNumber_65 rfl (lv_at hl 1 rfl) ?_
  refine va_get (D := (dC, dI)) (ci := 12) (v := .ref (a0 26)) (C := RX12) (T := TX12) (N := 67) hx hb hts zn_X12_newNumber_X12 hown hK hP 0 rfl rfl 26 (of_decide_eq_true rfl) (hts (.fieldLink RX12 90 "ShortEnoughModel" "within" "[I") zw_X12_newNumber_949) (fun _ h9 => h9) rfl dX12_newNumber_66 ?_
  refine lv_aload_n hx hb dX12_newNumber_69 rfl (lv_at hl 1 rfl) ?_
  refine lv_iload_n hx hb dX12_newNumber_70 rfl (lv_at hl 0 rfl) ?_
  obtain ⟨o_27, hqo_27, hfn⟩ := zb_s hfn
  refine zcVi (ci := 12) (rest := [.ref (a0 26)]) (pc' := 74) (ws' := [(h0, .inr (12, zO a0 b0 c0)), zVi (a0 17) k1 2 f1, zVi (a0 18) k2 28 (upd f2 o_2.toNatClampNeg p1), zVi (a0 19) k3 28 (upd f3 o_7.toNatClampNeg p2), zVi (a0 20) k4 28 (upd f4 o_12.toNatClampNeg (-1)), zVi (a0 21) k5 28 (upd f5 o_17.toNatClampNeg (-1)), zVi (a0 25) k6 28 (upd f6 o_22.toNatClampNeg (-1)), zVi (a0 26) k7 28 f7, zVi (a0 27) k8 28 f8]) hP hK hD hS hA ⟨hx, hb, hml, hown, hts⟩ (zf_X12_n l dC dI h0 (f1 (b0 11).toNatClampNeg) a0 b0 c0 o_27 hqo_27 H.size) (cwV 1 hts gX12_newNumber_X12_n rfl rfl rfl zhd_X12_n ⟨Nat.le_of_ble_eq_true rfl, Nat.le_of_ble_eq_true rfl⟩) [0] rfl (of_decide_eq_true rfl) [] rfl rfl rfl rfl hl.1 rfl (Nat.le_of_ble_eq_true rfl) dX12_newNumber_71 ⟨Nat.le_of_ble_eq_true rfl, Nat.le_of_ble_eq_true rfl⟩ [some 0] (of_decide_eq_true rfl) (of_decide_eq_true rfl) rfl rfl rfl (fun H locs hP hD hS => ?_)
  refine lv_iconst (v := (-1)) hx hb dX12_newNumber_74 zci_m1 ?_
  obtain ⟨h_31, hfn⟩ := zg_s hfn
  refine va_iast hx hb hK hP hD hS 7 6 rfl rfl h_31 dX12_newNumber_75 (fun H locs hP hD hS => ?_)
  have hP : va_P (dC, dI) vwCl [(h0, .inr (12, zO a0 b0 c0)), zVi (a0 17) k1 2 f1, zVi (a0 18) k2 28 (upd f2 o_2.toNatClampNeg p1), zVi (a0 19) k3 28 (upd f3 o_7.toNatClampNeg p2), zVi (a0 20) k4 28 (upd f4 o_12.toNatClampNeg (-1)), zVi (a0 21) k5 28 (upd f5 o_17.toNatClampNeg (-1)), zVi (a0 25) k6 28 (upd f6 o_22.toNatClampNeg (-1)), zVi (a0 26) k7 28 (upd f7 o_27.toNatClampNeg (-1)), zVi (a0 27) k8 28 f8] H := hP
  have hD := zDW hD hP rfl
  refine lv_aload_n hx hb dX12_newNumber_76 rfl (lv_at hl 1 rfl) ?_
  refine va_get (D := (dC, dI)) (ci := 12) (v := .ref (a0 27)) (C := RX12) (T := TX12) (N := 67) hx hb hts zn_X12_newNumber_X12 hown hK hP 0 rfl rfl 27 (of_decide_eq_true rfl) (hts (.fieldLink RX12 93 "ShortEnoughModel" "groupOf" "[I") zw_X12_newNumber_950) (fun _ h9 => h9) rfl dX12_newNumber_77 ?_
  refine lv_aload_n hx hb dX12_newNumber_80 rfl (lv_at hl 1 rfl) ?_
  refine lv_iload_n hx hb dX12_newNumber_81 rfl (lv_at hl 0 rfl) ?_
  obtain ⟨o_32, hqo_32, hfn⟩ := zb_s hfn
  refine zcVi (ci := 12) (rest := [.ref (a0 27)]) (pc' := 85) (ws' := [(h0, .inr (12, zO a0 b0 c0)), zVi (a0 17) k1 2 f1, zVi (a0 18) k2 28 (upd f2 o_2.toNatClampNeg p1), zVi (a0 19) k3 28 (upd f3 o_7.toNatClampNeg p2), zVi (a0 20) k4 28 (upd f4 o_12.toNatClampNeg (-1)), zVi (a0 21) k5 28 (upd f5 o_17.toNatClampNeg (-1)), zVi (a0 25) k6 28 (upd f6 o_22.toNatClampNeg (-1)), zVi (a0 26) k7 28 (upd f7 o_27.toNatClampNeg (-1)), zVi (a0 27) k8 28 f8]) hP hK hD hS hA ⟨hx, hb, hml, hown, hts⟩ (zf_X12_n l dC dI h0 (f1 (b0 11).toNatClampNeg) a0 b0 c0 o_32 hqo_32 H.size) (cwV 1 hts gX12_newNumber_X12_n rfl rfl rfl zhd_X12_n ⟨Nat.le_of_ble_eq_true rfl, Nat.le_of_ble_eq_true rfl⟩) [0] rfl (of_decide_eq_true rfl) [] rfl rfl rfl rfl hl.1 rfl (Nat.le_of_ble_eq_true rfl) dX12_newNumber_82 ⟨Nat.le_of_ble_eq_true rfl, Nat.le_of_ble_eq_true rfl⟩ [some 0] (of_decide_eq_true rfl) (of_decide_eq_true rfl) rfl rfl rfl (fun H locs hP hD hS => ?_)
  refine lv_iload_n hx hb dX12_newNumber_85 rfl (lv_at hl 0 rfl) ?_
  obtain ⟨h_36, hfn⟩ := zg_s hfn
  refine va_iast hx hb hK hP hD hS 8 7 rfl rfl h_36 dX12_newNumber_86 (fun H locs hP hD hS => ?_)
  have hP : va_P (dC, dI) vwCl [(h0, .inr (12, zO a0 b0 c0)), zVi (a0 17) k1 2 f1, zVi (a0 18) k2 28 (upd f2 o_2.toNatClampNeg p1), zVi (a0 19) k3 28 (upd f3 o_7.toNatClampNeg p2), zVi (a0 20) k4 28 (upd f4 o_12.toNatClampNeg (-1)), zVi (a0 21) k5 28 (upd f5 o_17.toNatClampNeg (-1)), zVi (a0 25) k6 28 (upd f6 o_22.toNatClampNeg (-1)), zVi (a0 26) k7 28 (upd f7 o_27.toNatClampNeg (-1)), zVi (a0 27) k8 28 (upd f8 o_32.toNatClampNeg (f1 (b0 11).toNatClampNeg))] H := hP
  have hD := zDW hD hP rfl
  have ho := Option.some.inj hfn
  subst ho
  exact zrv hx hb hr hK hP hD hS hQ trivial hlocks dX12_newNumber_87
theorem zw_X12_readsInput_951 : Cond.constantLong RX12 298 (-10000000) ∈ wsX12_readsInput := List.mem_of_getElem? (i := 1) (by decide +kernel)
theorem zw_X12_readsInput_952 : Cond.constantLong RX12 300 (10000000) ∈ wsX12_readsInput := List.mem_of_getElem? (i := 2) (by decide +kernel)
theorem zn_X12_readsInput_X12 : ∀ w ∈ wsX120, w ∈ wsX12_readsInput := fun _ h => List.mem_cons_of_mem _ (List.mem_append_right _ h)
theorem zw_X12_readsInput_954 : Cond.fieldLink RX12 32 "ShortEnoughModel" "begun" "I" ∈ wsX12_readsInput := List.mem_of_getElem? (i := 3) (by decide +kernel)
theorem zw_X12_readsInput_955 : Cond.fieldLink RX12 77 "ShortEnoughModel" "firstV" "[J" ∈ wsX12_readsInput := List.mem_of_getElem? (i := 4) (by decide +kernel)
theorem zw_X12_readsInput_956 : Cond.fieldLink RX12 62 "ShortEnoughModel" "numbers" "[I" ∈ wsX12_readsInput := List.mem_of_getElem? (i := 5) (by decide +kernel)
theorem zw_X12_readsInput_957 : Cond.fieldLink RX12 44 "ShortEnoughModel" "in" "I" ∈ wsX12_readsInput := List.mem_of_getElem? (i := 6) (by decide +kernel)
theorem zw_X12_readsInput_958 : Cond.fieldLink RX12 81 "ShortEnoughModel" "secondV" "[J" ∈ wsX12_readsInput := List.mem_of_getElem? (i := 7) (by decide +kernel)
set_option maxHeartbeats 4000000 in
set_option maxRecDepth 100000 in
theorem zf_X12_readsInput (l : Launch) (dC : Nat → ClassId) (dI : Nat → Nat → Nat) (h0 : Nat) (a0 : Nat → Nat) (b0 : Nat → Int32) (c0 : Nat → Int64) (k1 : Nat) (f1 : Nat → Int32) (k2 : Nat) (f2 : Nat → Int32) (k3 : Nat) (f3 : Nat → Int32) (k4 : Nat) (f4 : Nat → Int32) (k5 : Nat) (f5 : Nat → Int32) (k6 : Nat) (f6 : Nat → Int32) (k7 : Nat) (f7 : Nat → Int32) (k8 : Nat) (f8 : Nat → Int32) (k9 : Nat) (f9 : Nat → Int32) (k10 : Nat) (f10 : Nat → Int32) (k11 : Nat) (f11 : Nat → Int32) (k12 : Nat) (f12 : Nat → Int32) (k13 : Nat) (f13 : Nat → Int64) (k14 : Nat) (f14 : Nat → Int64) (o : Int32 × Int32 × Int32 × Int32 × (Nat → Int32) × (Nat → Int32) × (Nat → Int32) × (Nat → Int32) × (Nat → Int32) × (Nat → Int32) × (Nat → Int32) × (Nat → Int32) × (Nat → Int64) × (Nat → Int64)) (hfn : fn_X12_readsInput (b0 5) (b0 6) (b0 7) (b0 8) (b0 9) (b0 11) f1 f2 f3 f4 f5 f6 f7 f8 f9 f10 f11 f12 f13 f14 = some o) (sz : Nat) : zMv l yX12_readsInput wsX12_readsInput ({ frames := 5, cells := 0, slots := 0, locals := 105 }) (dC, dI) vwCl [.ref h0] [(h0, .inr (12, zO a0 b0 c0)), zVi (a0 0) k1 1200 f1, zVi (a0 10) k2 71 f2, zVi (a0 12) k3 2 f3, zVi (a0 13) k4 8 f4, zVi (a0 17) k5 2 f5, zVi (a0 18) k6 28 f6, zVi (a0 19) k7 28 f7, zVi (a0 20) k8 28 f8, zVi (a0 21) k9 28 f9, zVi (a0 25) k10 28 f10, zVi (a0 26) k11 28 f11, zVi (a0 27) k12 28 f12, zVl (a0 22) k13 28 f13, zVl (a0 23) k14 28 f14] [(k1, .int), (k2, .int), (k3, .int), (k4, .int), (k5, .int), (k6, .int), (k7, .int), (k8, .int), (k9, .int), (k10, .int), (k11, .int), (k12, .int), (k13, .long), (k14, .long)] (fun _ => True) [(h0, .inr (12, zO a0 (zI (zI (zI (zI b0 6 o.1) 7 o.2.1) 8 o.2.2.1) 9 o.2.2.2.1) c0)), zVi (a0 0) k1 1200 f1, zVi (a0 10) k2 71 f2, zVi (a0 12) k3 2 f3, zVi (a0 13) k4 8 f4, zVi (a0 17) k5 2 o.2.2.2.2.1, zVi (a0 18) k6 28 o.2.2.2.2.2.1, zVi (a0 19) k7 28 o.2.2.2.2.2.2.1, zVi (a0 20) k8 28 o.2.2.2.2.2.2.2.1, zVi (a0 21) k9 28 o.2.2.2.2.2.2.2.2.1, zVi (a0 25) k10 28 o.2.2.2.2.2.2.2.2.2.1, zVi (a0 26) k11 28 o.2.2.2.2.2.2.2.2.2.2.1, zVi (a0 27) k12 28 o.2.2.2.2.2.2.2.2.2.2.2.1, zVl (a0 22) k13 28 o.2.2.2.2.2.2.2.2.2.2.2.2.1, zVl (a0 23) k14 28 o.2.2.2.2.2.2.2.2.2.2.2.2.2] [(k1, .int), (k2, .int), (k3, .int), (k4, .int), (k5, .int), (k6, .int), (k7, .int), (k8, .int), (k9, .int), (k10, .int), (k11, .int), (k12, .int), (k13, .long), (k14, .long)] sz := by
  refine zgov (cc := cX12_readsInput) (maxL := 6) (ret := none) (C0 := RX12) (lv0 := [(0, .ref h0)]) zpl_X12 rfl rfl rfl (Nat.le_of_ble_eq_true rfl) ?_
  intro p e s m below meth c A ls Q hx hb hr hts hown hlocks hml hP hK hD hA hS hl hQ
  unfold fn_X12_readsInput at hfn
  refine lv_aload_n hx hb dX12_readsInput_0 rfl (lv_at hl 0 rfl) ?_
  obtain ⟨o_1, hqo_1, hfn⟩ := zb_s hfn
  refine zcVi (ci := 12) (rest := []) (pc' := 4) (ws' := [(h0, .inr (12, zO a0 (zI (zI (zI (zI b0 6 o_1.2.1) 7 o_1.2.2.1) 8 o_1.2.2.2.1) 9 o_1.2.2.2.2) c0)), zVi (a0 0) k1 1200 f1, zVi (a0 10) k2 71 f2, zVi (a0 12) k3 2 f3, zVi (a0 13) k4 8 f4, zVi (a0 17) k5 2 f5, zVi (a0 18) k6 28 f6, zVi (a0 19) k7 28 f7, zVi (a0 20) k8 28 f8, zVi (a0 21) k9 28 f9, zVi (a0 25) k10 28 f10, zVi (a0 26) k11 28 f11, zVi (a0 27) k12 28 f12, zVl (a0 22) k13 28 f13, zVl (a0 23) k14 28 f14]) hP hK hD hS hA ⟨hx, hb, hml, hown, hts⟩ (zf_X12_newName l dC dI h0 a0 b0 c0 k1 f1 k2 f2 k3 f3 k4 f4 k5 f5 k6 f6 o_1 hqo_1 s.heap.size) (cwV 0 hts gX12_readsInput_X12_newName rfl rfl rfl zhd_X12_newName ⟨Nat.le_of_ble_eq_true rfl, Nat.le_of_ble_eq_true rfl⟩) [0, 1, 2, 3, 4, 5, 6] rfl (of_decide_eq_true rfl) [0, 1, 2, 3, 4, 5] rfl rfl rfl rfl hl.1 rfl (Nat.le_of_ble_eq_true rfl) dX12_readsInput_1 ⟨Nat.le_of_ble_eq_true rfl, Nat.le_of_ble_eq_true rfl⟩ [some 0, some 1, some 2, some 3, some 4, some 5, some 6] (of_decide_eq_true rfl) (of_decide_eq_true rfl) rfl rfl rfl (fun H locs hP hD hS => ?_)
  refine lv_istore_n (lv' := [(1, .int o_1.1), (0, .ref h0)]) hx hb dX12_readsInput_4 rfl hl (of_decide_eq_true rfl) rfl (fun ls hl => ?_)
  refine lv_aload_n hx hb dX12_readsInput_5 rfl (lv_at hl 1 rfl) ?_
  refine lv_ldc2 (v := (-10000000)) hx hb hown (hts (.constantLong RX12 298 (-10000000)) zw_X12_readsInput_951) dX12_readsInput_6 ?_
  refine lv_ldc2 (v := 10000000) hx hb hown (hts (.constantLong RX12 300 (10000000)) zw_X12_readsInput_952) dX12_readsInput_9 ?_
  obtain ⟨o_5, hqo_5, hfn⟩ := zb_s hfn
  refine zcVl (ci := 12) (rest := []) (pc' := 15) (ws' := [(h0, .inr (12, zO a0 (zI (zI (zI (zI b0 6 o_5.2.1) 7 o_5.2.2.1) 8 o_5.2.2.2.1) 9 o_5.2.2.2.2) c0)), zVi (a0 0) k1 1200 f1, zVi (a0 10) k2 71 f2, zVi (a0 12) k3 2 f3, zVi (a0 13) k4 8 f4, zVi (a0 17) k5 2 f5, zVi (a0 18) k6 28 f6, zVi (a0 19) k7 28 f7, zVi (a0 20) k8 28 f8, zVi (a0 21) k9 28 f9, zVi (a0 25) k10 28 f10, zVi (a0 26) k11 28 f11, zVi (a0 27) k12 28 f12, zVl (a0 22) k13 28 f13, zVl (a0 23) k14 28 f14]) hP hK hD hS hA ⟨hx, hb, hml, hown, hts⟩ (zf_X12_signed l dC dI h0 ((-10000000) : Int64) (10000000 : Int64) a0 (zI (zI (zI (zI b0 6 o_1.2.1) 7 o_1.2.2.1) 8 o_1.2.2.2.1) 9 o_1.2.2.2.2) c0 k1 f1 o_5 hqo_5 H.size) (cwV 2 hts gX12_readsInput_X12_signed rfl rfl rfl zhd_X12_signed ⟨Nat.le_of_ble_eq_true rfl, Nat.le_of_ble_eq_true rfl⟩) [0, 1] rfl (of_decide_eq_true rfl) [0] rfl rfl rfl rfl hl.1 rfl (Nat.le_of_ble_eq_true rfl) dX12_readsInput_12 ⟨Nat.le_of_ble_eq_true rfl, Nat.le_of_ble_eq_true rfl⟩ [some 0, some 1] (of_decide_eq_true rfl) (of_decide_eq_true rfl) rfl rfl rfl (fun H locs hP hD hS => ?_)
  refine lv_lstore_n (lv' := [(2, .long o_5.1), (1, .int o_1.1), (0, .ref h0)]) hx hb dX12_readsInput_15 rfl hl (of_decide_eq_true rfl) rfl (fun ls hl => ?_)
  refine lv_aload_n hx hb dX12_readsInput_16 rfl (lv_at hl 2 rfl) ?_
  refine lv_ldc2 (v := (-10000000)) hx hb hown (hts (.constantLong RX12 298 (-10000000)) zw_X12_readsInput_951) dX12_readsInput_17 ?_
  refine lv_ldc2 (v := 10000000) hx hb hown (hts (.constantLong RX12 300 (10000000)) zw_X12_readsInput_952) dX12_readsInput_20 ?_
  obtain ⟨o_9, hqo_9, hfn⟩ := zb_s hfn
  refine zcVl (ci := 12) (rest := []) (pc' := 26) (ws' := [(h0, .inr (12, zO a0 (zI (zI (zI (zI b0 6 o_9.2.1) 7 o_9.2.2.1) 8 o_9.2.2.2.1) 9 o_9.2.2.2.2) c0)), zVi (a0 0) k1 1200 f1, zVi (a0 10) k2 71 f2, zVi (a0 12) k3 2 f3, zVi (a0 13) k4 8 f4, zVi (a0 17) k5 2 f5, zVi (a0 18) k6 28 f6, zVi (a0 19) k7 28 f7, zVi (a0 20) k8 28 f8, zVi (a0 21) k9 28 f9, zVi (a0 25) k10 28 f10, zVi (a0 26) k11 28 f11, zVi (a0 27) k12 28 f12, zVl (a0 22) k13 28 f13, zVl (a0 23) k14 28 f14]) hP hK hD hS hA ⟨hx, hb, hml, hown, hts⟩ (zf_X12_signed l dC dI h0 ((-10000000) : Int64) (10000000 : Int64) a0 (zI (zI (zI (zI b0 6 o_5.2.1) 7 o_5.2.2.1) 8 o_5.2.2.2.1) 9 o_5.2.2.2.2) c0 k1 f1 o_9 hqo_9 H.size) (cwV 2 hts gX12_readsInput_X12_signed rfl rfl rfl zhd_X12_signed ⟨Nat.le_of_ble_eq_true rfl, Nat.le_of_ble_eq_true rfl⟩) [0, 1] rfl (of_decide_eq_true rfl) [0] rfl rfl rfl rfl hl.1 rfl (Nat.le_of_ble_eq_true rfl) dX12_readsInput_23 ⟨Nat.le_of_ble_eq_true rfl, Nat.le_of_ble_eq_true rfl⟩ [some 0, some 1] (of_decide_eq_true rfl) (of_decide_eq_true rfl) rfl rfl rfl (fun H locs hP hD hS => ?_)
  refine lv_lstore (lv' := [(4, .long o_9.1), (2, .long o_5.1), (1, .int o_1.1), (0, .ref h0)]) hx hb dX12_readsInput_26 hl (of_decide_eq_true rfl) rfl (fun ls hl => ?_)
  refine lv_aload_n hx hb dX12_readsInput_28 rfl (lv_at hl 3 rfl) ?_
  obtain ⟨o_13, hqo_13, hfn⟩ := zb_s hfn
  refine zcVb (ci := 12) (rest := []) (pc' := 32) (ws' := [(h0, .inr (12, zO a0 (zI (zI (zI (zI b0 6 o_9.2.1) 7 o_9.2.2.1) 8 o_9.2.2.2.1) 9 o_9.2.2.2.2) c0)), zVi (a0 0) k1 1200 f1, zVi (a0 10) k2 71 f2, zVi (a0 12) k3 2 f3, zVi (a0 13) k4 8 f4, zVi (a0 17) k5 2 f5, zVi (a0 18) k6 28 f6, zVi (a0 19) k7 28 f7, zVi (a0 20) k8 28 f8, zVi (a0 21) k9 28 f9, zVi (a0 25) k10 28 f10, zVi (a0 26) k11 28 f11, zVi (a0 27) k12 28 f12, zVl (a0 22) k13 28 f13, zVl (a0 23) k14 28 f14]) hP hK hD hS hA ⟨hx, hb, hml, hown, hts⟩ (zf_X12_goesWell l dC dI h0 a0 (zI (zI (zI (zI b0 6 o_9.2.1) 7 o_9.2.2.1) 8 o_9.2.2.2.1) 9 o_9.2.2.2.2) c0 o_13 hqo_13 H.size) (cwV 0 hts gX12_readsInput_X12_goesWell rfl rfl rfl zhd_X12_goesWell ⟨Nat.le_of_ble_eq_true rfl, Nat.le_of_ble_eq_true rfl⟩) [0] rfl (of_decide_eq_true rfl) [] rfl rfl rfl rfl hl.1 rfl (Nat.le_of_ble_eq_true rfl) dX12_readsInput_29 ⟨Nat.le_of_ble_eq_true rfl, Nat.le_of_ble_eq_true rfl⟩ [some 0] (of_decide_eq_true rfl) (of_decide_eq_true rfl) rfl rfl rfl (fun H locs hw_16n hP hD hS => ?_)
  obtain ⟨j_17, ej_17, hfn⟩ := zj_g hfn
  have jp_17 : ∀ (s_17 : Int32 × Int32) (H : Heap) (locs : List Loc) (ls : Array Slot), j_17 s_17 = some o → va_P (dC, dI) vwCl [(h0, .inr (12, zO a0 (zI (zI (zI (zI b0 6 o_9.2.1) 7 o_9.2.2.1) 8 s_17.1) 9 s_17.2) c0)), zVi (a0 0) k1 1200 f1, zVi (a0 10) k2 71 f2, zVi (a0 12) k3 2 f3, zVi (a0 13) k4 8 f4, zVi (a0 17) k5 2 f5, zVi (a0 18) k6 28 f6, zVi (a0 19) k7 28 f7, zVi (a0 20) k8 28 f8, zVi (a0 21) k9 28 f9, zVi (a0 25) k10 28 f10, zVi (a0 26) k11 28 f11, zVi (a0 27) k12 28 f12, zVl (a0 22) k13 28 f13, zVl (a0 23) k14 28 f14] H → va_D A [(h0, .inr (12, zO a0 (zI (zI (zI (zI b0 6 o_9.2.1) 7 o_9.2.2.1) 8 s_17.1) 9 s_17.2) c0)), zVi (a0 0) k1 1200 f1, zVi (a0 10) k2 71 f2, zVi (a0 12) k3 2 f3, zVi (a0 13) k4 8 f4, zVi (a0 17) k5 2 f5, zVi (a0 18) k6 28 f6, zVi (a0 19) k7 28 f7, zVi (a0 20) k8 28 f8, zVi (a0 21) k9 28 f9, zVi (a0 25) k10 28 f10, zVi (a0 26) k11 28 f11, zVi (a0 27) k12 28 f12, zVl (a0 22) k13 28 f13, zVl (a0 23) k14 28 f14] → va_S A s.heap H locs → lv_has ls 6 [(4, .long o_9.1), (2, .long o_5.1), (1, .int o_1.1), (0, .ref h0)] → W p l e (headSpec wsX12_readsInput ({ frames := 5, cells := 0, slots := 0, locals := 105 })).room s m ([.ref h0] : List Value).toArray below meth c H locs 0 0 Q (F0 m 51 ls []) := by
    intro s_17 H locs ls hfn hP hD hS hl
    have hfn := zj_s ej_17 hfn
    refine lv_aload_n hx hb dX12_readsInput_51 rfl (lv_at hl 3 rfl) ?_
    obtain ⟨o_18, hqo_18, hfn⟩ := zb_s hfn
    refine zcVb (ci := 12) (rest := []) (pc' := 55) (ws' := [(h0, .inr (12, zO a0 (zI (zI (zI (zI b0 6 o_9.2.1) 7 o_9.2.2.1) 8 s_17.1) 9 s_17.2) c0)), zVi (a0 0) k1 1200 f1, zVi (a0 10) k2 71 f2, zVi (a0 12) k3 2 f3, zVi (a0 13) k4 8 f4, zVi (a0 17) k5 2 f5, zVi (a0 18) k6 28 f6, zVi (a0 19) k7 28 f7, zVi (a0 20) k8 28 f8, zVi (a0 21) k9 28 f9, zVi (a0 25) k10 28 f10, zVi (a0 26) k11 28 f11, zVi (a0 27) k12 28 f12, zVl (a0 22) k13 28 f13, zVl (a0 23) k14 28 f14]) hP hK hD hS hA ⟨hx, hb, hml, hown, hts⟩ (zf_X12_goesWell l dC dI h0 a0 (zI (zI (zI (zI b0 6 o_9.2.1) 7 o_9.2.2.1) 8 s_17.1) 9 s_17.2) c0 o_18 hqo_18 H.size) (cwV 0 hts gX12_readsInput_X12_goesWell rfl rfl rfl zhd_X12_goesWell ⟨Nat.le_of_ble_eq_true rfl, Nat.le_of_ble_eq_true rfl⟩) [0] rfl (of_decide_eq_true rfl) [] rfl rfl rfl rfl hl.1 rfl (Nat.le_of_ble_eq_true rfl) dX12_readsInput_52 ⟨Nat.le_of_ble_eq_true rfl, Nat.le_of_ble_eq_true rfl⟩ [some 0] (of_decide_eq_true rfl) (of_decide_eq_true rfl) rfl rfl rfl (fun H locs hw_21n hP hD hS => ?_)
    refine lv_if_ne (tgt := 59) hx hb dX12_readsInput_55 (of_decide_eq_true rfl) (fun c_22 => ?_) (fun c_22 => ?_)
    · have hfn := (if_neg c_22).symm.trans hfn
      refine lv_aload_n hx hb dX12_readsInput_59 rfl (lv_at hl 3 rfl) ?_
      refine lv_iload_n hx hb dX12_readsInput_60 rfl (lv_at hl 2 rfl) ?_
      refine lv_iconst (v := 0) hx hb dX12_readsInput_61 zci_0 ?_
      obtain ⟨o_23, hqo_23, hfn⟩ := zb_s hfn
      refine zcVv (ci := 12) (rest := []) (pc' := 65) (ws' := [(h0, .inr (12, zO a0 (zI (zI (zI (zI b0 6 o_9.2.1) 7 o_9.2.2.1) 8 s_17.1) 9 s_17.2) c0)), zVi (a0 0) k1 1200 f1, zVi (a0 10) k2 71 f2, zVi (a0 12) k3 2 f3, zVi (a0 13) k4 8 f4, zVi (a0 17) k5 2 f5, zVi (a0 18) k6 28 o_23.1, zVi (a0 19) k7 28 o_23.2.1, zVi (a0 20) k8 28 o_23.2.2.1, zVi (a0 21) k9 28 o_23.2.2.2.1, zVi (a0 25) k10 28 o_23.2.2.2.2.1, zVi (a0 26) k11 28 o_23.2.2.2.2.2.1, zVi (a0 27) k12 28 o_23.2.2.2.2.2.2, zVl (a0 22) k13 28 f13, zVl (a0 23) k14 28 f14]) hP hK hD hS hA ⟨hx, hb, hml, hown, hts⟩ (zf_X12_newNumber l dC dI h0 o_1.1 0 a0 (zI (zI (zI (zI b0 6 o_9.2.1) 7 o_9.2.2.1) 8 s_17.1) 9 s_17.2) c0 k5 f5 k6 f6 k7 f7 k8 f8 k9 f9 k10 f10 k11 f11 k12 f12 o_23 hqo_23 H.size) (cwV 2 hts gX12_readsInput_X12_newNumber rfl rfl rfl zhd_X12_newNumber ⟨Nat.le_of_ble_eq_true rfl, Nat.le_of_ble_eq_true rfl⟩) [0, 5, 6, 7, 8, 9, 10, 11, 12] rfl (of_decide_eq_true rfl) [4, 5, 6, 7, 8, 9, 10, 11] rfl rfl rfl rfl hl.1 rfl (Nat.le_of_ble_eq_true rfl) dX12_readsInput_62 ⟨Nat.le_of_ble_eq_true rfl, Nat.le_of_ble_eq_true rfl⟩ [some 0, none, none, none, none, some 1, some 2, some 3, some 4, some 5, some 6, some 7, some 8] (of_decide_eq_true rfl) (of_decide_eq_true rfl) rfl rfl rfl (fun H locs hP hD hS => ?_)
      refine lv_aload_n hx hb dX12_readsInput_65 rfl (lv_at hl 3 rfl) ?_
      refine va_get (D := (dC, dI)) (ci := 12) (v := .ref (a0 22)) (C := RX12) (T := TX12) (N := 67) hx hb hts zn_X12_readsInput_X12 hown hK hP 0 rfl rfl 22 (of_decide_eq_true rfl) (hts (.fieldLink RX12 77 "ShortEnoughModel" "firstV" "[J") zw_X12_readsInput_955) (fun _ h9 => h9) rfl dX12_readsInput_66 ?_
      refine lv_aload_n hx hb dX12_readsInput_69 rfl (lv_at hl 3 rfl) ?_
      refine lv_aload_n hx hb dX12_readsInput_70 rfl (lv_at hl 3 rfl) ?_
      refine va_get (D := (dC, dI)) (ci := 12) (v := .ref (a0 17)) (C := RX12) (T := TX12) (N := 67) hx hb hts zn_X12_readsInput_X12 hown hK hP 0 rfl rfl 17 (of_decide_eq_true rfl) (hts (.fieldLink RX12 62 "ShortEnoughModel" "numbers" "[I") zw_X12_readsInput_956) (fun _ h9 => h9) rfl dX12_readsInput_71 ?_
      refine lv_aload_n hx hb dX12_readsInput_74 rfl (lv_at hl 3 rfl) ?_
      refine va_get (D := (dC, dI)) (ci := 12) (v := .int (b0 11)) (C := RX12) (T := TX12) (N := 67) hx hb hts zn_X12_readsInput_X12 hown hK hP 0 rfl rfl 11 (of_decide_eq_true rfl) (hts (.fieldLink RX12 44 "ShortEnoughModel" "in" "I") zw_X12_readsInput_957) (fun _ h9 => h9) rfl dX12_readsInput_75 ?_
      obtain ⟨h_27, hfn⟩ := zg_s hfn
      refine va_iald hx hb hK hP 5 4 rfl rfl h_27 dX12_readsInput_78 ?_
      obtain ⟨o_28, hqo_28, hfn⟩ := zb_s hfn
      refine zcVi (ci := 12) (rest := [.ref (a0 22)]) (pc' := 82) (ws' := [(h0, .inr (12, zO a0 (zI (zI (zI (zI b0 6 o_9.2.1) 7 o_9.2.2.1) 8 s_17.1) 9 s_17.2) c0)), zVi (a0 0) k1 1200 f1, zVi (a0 10) k2 71 f2, zVi (a0 12) k3 2 f3, zVi (a0 13) k4 8 f4, zVi (a0 17) k5 2 f5, zVi (a0 18) k6 28 o_23.1, zVi (a0 19) k7 28 o_23.2.1, zVi (a0 20) k8 28 o_23.2.2.1, zVi (a0 21) k9 28 o_23.2.2.2.1, zVi (a0 25) k10 28 o_23.2.2.2.2.1, zVi (a0 26) k11 28 o_23.2.2.2.2.2.1, zVi (a0 27) k12 28 o_23.2.2.2.2.2.2, zVl (a0 22) k13 28 f13, zVl (a0 23) k14 28 f14]) hP hK hD hS hA ⟨hx, hb, hml, hown, hts⟩ (zf_X12_n l dC dI h0 (f5 (b0 11).toNatClampNeg) a0 (zI (zI (zI (zI b0 6 o_9.2.1) 7 o_9.2.2.1) 8 s_17.1) 9 s_17.2) c0 o_28 hqo_28 H.size) (cwV 1 hts gX12_readsInput_X12_n rfl rfl rfl zhd_X12_n ⟨Nat.le_of_ble_eq_true rfl, Nat.le_of_ble_eq_true rfl⟩) [0] rfl (of_decide_eq_true rfl) [] rfl rfl rfl rfl hl.1 rfl (Nat.le_of_ble_eq_true rfl) dX12_readsInput_79 ⟨Nat.le_of_ble_eq_true rfl, Nat.le_of_ble_eq_true rfl⟩ [some 0] (of_decide_eq_true rfl) (of_decide_eq_true rfl) rfl rfl rfl (fun H locs hP hD hS => ?_)
      refine lv_lload_n hx hb dX12_readsInput_82 rfl (lv_at hl 1 rfl) ?_
      obtain ⟨h_32, hfn⟩ := zg_s hfn
      refine va_last hx hb hK hP hD hS 13 12 rfl rfl h_32 dX12_readsInput_83 (fun H locs hP hD hS => ?_)
      have hP : va_P (dC, dI) vwCl [(h0, .inr (12, zO a0 (zI (zI (zI (zI b0 6 o_9.2.1) 7 o_9.2.2.1) 8 s_17.1) 9 s_17.2) c0)), zVi (a0 0) k1 1200 f1, zVi (a0 10) k2 71 f2, zVi (a0 12) k3 2 f3, zVi (a0 13) k4 8 f4, zVi (a0 17) k5 2 f5, zVi (a0 18) k6 28 o_23.1, zVi (a0 19) k7 28 o_23.2.1, zVi (a0 20) k8 28 o_23.2.2.1, zVi (a0 21) k9 28 o_23.2.2.2.1, zVi (a0 25) k10 28 o_23.2.2.2.2.1, zVi (a0 26) k11 28 o_23.2.2.2.2.2.1, zVi (a0 27) k12 28 o_23.2.2.2.2.2.2, zVl (a0 22) k13 28 (vp_updL f13 o_28.toNatClampNeg o_5.1), zVl (a0 23) k14 28 f14] H := hP
      have hD := zDW hD hP rfl
      refine lv_aload_n hx hb dX12_readsInput_84 rfl (lv_at hl 3 rfl) ?_
      refine va_get (D := (dC, dI)) (ci := 12) (v := .ref (a0 23)) (C := RX12) (T := TX12) (N := 67) hx hb hts zn_X12_readsInput_X12 hown hK hP 0 rfl rfl 23 (of_decide_eq_true rfl) (hts (.fieldLink RX12 81 "ShortEnoughModel" "secondV" "[J") zw_X12_readsInput_958) (fun _ h9 => h9) rfl dX12_readsInput_85 ?_
      refine lv_aload_n hx hb dX12_readsInput_88 rfl (lv_at hl 3 rfl) ?_
      refine lv_aload_n hx hb dX12_readsInput_89 rfl (lv_at hl 3 rfl) ?_
      refine va_get (D := (dC, dI)) (ci := 12) (v := .ref (a0 17)) (C := RX12) (T := TX12) (N := 67) hx hb hts zn_X12_readsInput_X12 hown hK hP 0 rfl rfl 17 (of_decide_eq_true rfl) (hts (.fieldLink RX12 62 "ShortEnoughModel" "numbers" "[I") zw_X12_readsInput_956) (fun _ h9 => h9) rfl dX12_readsInput_90 ?_
      refine lv_aload_n hx hb dX12_readsInput_93 rfl (lv_at hl 3 rfl) ?_
      refine va_get (D := (dC, dI)) (ci := 12) (v := .int (b0 11)) (C := RX12) (T := TX12) (N := 67) hx hb hts zn_X12_readsInput_X12 hown hK hP 0 rfl rfl 11 (of_decide_eq_true rfl) (hts (.fieldLink RX12 44 "ShortEnoughModel" "in" "I") zw_X12_readsInput_957) (fun _ h9 => h9) rfl dX12_readsInput_94 ?_
      refine va_iald hx hb hK hP 5 4 rfl rfl h_27 dX12_readsInput_97 ?_
      obtain ⟨o_33, hqo_33, hfn⟩ := zb_s hfn
      refine zcVi (ci := 12) (rest := [.ref (a0 23)]) (pc' := 101) (ws' := [(h0, .inr (12, zO a0 (zI (zI (zI (zI b0 6 o_9.2.1) 7 o_9.2.2.1) 8 s_17.1) 9 s_17.2) c0)), zVi (a0 0) k1 1200 f1, zVi (a0 10) k2 71 f2, zVi (a0 12) k3 2 f3, zVi (a0 13) k4 8 f4, zVi (a0 17) k5 2 f5, zVi (a0 18) k6 28 o_23.1, zVi (a0 19) k7 28 o_23.2.1, zVi (a0 20) k8 28 o_23.2.2.1, zVi (a0 21) k9 28 o_23.2.2.2.1, zVi (a0 25) k10 28 o_23.2.2.2.2.1, zVi (a0 26) k11 28 o_23.2.2.2.2.2.1, zVi (a0 27) k12 28 o_23.2.2.2.2.2.2, zVl (a0 22) k13 28 (vp_updL f13 o_28.toNatClampNeg o_5.1), zVl (a0 23) k14 28 f14]) hP hK hD hS hA ⟨hx, hb, hml, hown, hts⟩ (zf_X12_n l dC dI h0 (f5 (b0 11).toNatClampNeg) a0 (zI (zI (zI (zI b0 6 o_9.2.1) 7 o_9.2.2.1) 8 s_17.1) 9 s_17.2) c0 o_33 hqo_33 H.size) (cwV 1 hts gX12_readsInput_X12_n rfl rfl rfl zhd_X12_n ⟨Nat.le_of_ble_eq_true rfl, Nat.le_of_ble_eq_true rfl⟩) [0] rfl (of_decide_eq_true rfl) [] rfl rfl rfl rfl hl.1 rfl (Nat.le_of_ble_eq_true rfl) dX12_readsInput_98 ⟨Nat.le_of_ble_eq_true rfl, Nat.le_of_ble_eq_true rfl⟩ [some 0] (of_decide_eq_true rfl) (of_decide_eq_true rfl) rfl rfl rfl (fun H locs hP hD hS => ?_)
      refine lv_lload hx hb dX12_readsInput_101 (lv_at hl 0 rfl) ?_
      obtain ⟨h_37, hfn⟩ := zg_s hfn
      refine va_last hx hb hK hP hD hS 14 13 rfl rfl h_37 dX12_readsInput_103 (fun H locs hP hD hS => ?_)
      have hP : va_P (dC, dI) vwCl [(h0, .inr (12, zO a0 (zI (zI (zI (zI b0 6 o_9.2.1) 7 o_9.2.2.1) 8 s_17.1) 9 s_17.2) c0)), zVi (a0 0) k1 1200 f1, zVi (a0 10) k2 71 f2, zVi (a0 12) k3 2 f3, zVi (a0 13) k4 8 f4, zVi (a0 17) k5 2 f5, zVi (a0 18) k6 28 o_23.1, zVi (a0 19) k7 28 o_23.2.1, zVi (a0 20) k8 28 o_23.2.2.1, zVi (a0 21) k9 28 o_23.2.2.2.1, zVi (a0 25) k10 28 o_23.2.2.2.2.1, zVi (a0 26) k11 28 o_23.2.2.2.2.2.1, zVi (a0 27) k12 28 o_23.2.2.2.2.2.2, zVl (a0 22) k13 28 (vp_updL f13 o_28.toNatClampNeg o_5.1), zVl (a0 23) k14 28 (vp_updL f14 o_33.toNatClampNeg o_9.1)] H := hP
      have hD := zDW hD hP rfl
      refine lv_aload_n hx hb dX12_readsInput_104 rfl (lv_at hl 3 rfl) ?_
      refine va_get (D := (dC, dI)) (ci := 12) (v := .ref (a0 17)) (C := RX12) (T := TX12) (N := 67) hx hb hts zn_X12_readsInput_X12 hown hK hP 0 rfl rfl 17 (of_decide_eq_true rfl) (hts (.fieldLink RX12 62 "ShortEnoughModel" "numbers" "[I") zw_X12_readsInput_956) (fun _ h9 => h9) rfl dX12_readsInput_105 ?_
      refine lv_aload_n hx hb dX12_readsInput_108 rfl (lv_at hl 3 rfl) ?_
      refine va_get (D := (dC, dI)) (ci := 12) (v := .int (b0 11)) (C := RX12) (T := TX12) (N := 67) hx hb hts zn_X12_readsInput_X12 hown hK hP 0 rfl rfl 11 (of_decide_eq_true rfl) (hts (.fieldLink RX12 44 "ShortEnoughModel" "in" "I") zw_X12_readsInput_957) (fun _ h9 => h9) rfl dX12_readsInput_109 ?_
      refine lv_dup2_11 hx hb dX12_readsInput_112 rfl rfl ?_
      refine va_iald hx hb hK hP 5 4 rfl rfl h_27 dX12_readsInput_113 ?_
      refine lv_iconst (v := 1) hx hb dX12_readsInput_114 zci_1 ?_
      refine lv_iadd hx hb dX12_readsInput_115 ?_
      refine va_iast hx hb hK hP hD hS 5 4 rfl rfl h_27 dX12_readsInput_116 (fun H locs hP hD hS => ?_)
      have hP : va_P (dC, dI) vwCl [(h0, .inr (12, zO a0 (zI (zI (zI (zI b0 6 o_9.2.1) 7 o_9.2.2.1) 8 s_17.1) 9 s_17.2) c0)), zVi (a0 0) k1 1200 f1, zVi (a0 10) k2 71 f2, zVi (a0 12) k3 2 f3, zVi (a0 13) k4 8 f4, zVi (a0 17) k5 2 (upd f5 (b0 11).toNatClampNeg ((f5 (b0 11).toNatClampNeg) + 1)), zVi (a0 18) k6 28 o_23.1, zVi (a0 19) k7 28 o_23.2.1, zVi (a0 20) k8 28 o_23.2.2.1, zVi (a0 21) k9 28 o_23.2.2.2.1, zVi (a0 25) k10 28 o_23.2.2.2.2.1, zVi (a0 26) k11 28 o_23.2.2.2.2.2.1, zVi (a0 27) k12 28 o_23.2.2.2.2.2.2, zVl (a0 22) k13 28 (vp_updL f13 o_28.toNatClampNeg o_5.1), zVl (a0 23) k14 28 (vp_updL f14 o_33.toNatClampNeg o_9.1)] H := hP
      have hD := zDW hD hP rfl
      have ho := Option.some.inj hfn
      subst ho
      exact zrv hx hb hr hK hP hD hS hQ trivial hlocks dX12_readsInput_117
    have hfn := (if_pos c_22).symm.trans hfn
    have ho := Option.some.inj hfn
    subst ho
    exact zrv hx hb hr hK hP hD hS hQ trivial hlocks dX12_readsInput_58
  refine lv_if_eq (tgt := 51) hx hb dX12_readsInput_32 (of_decide_eq_true rfl) (fun c_38 => ?_) (fun c_38 => ?_)
  · have hfn := (if_pos c_38).symm.trans hfn
    exact jp_17 (o_9.2.2.2.1, o_9.2.2.2.2) H locs ls hfn hP hD hS (lv_sub hl [0, 1, 2, 3] rfl)
  have hfn := (if_neg c_38).symm.trans hfn
  refine lv_lload hx hb dX12_readsInput_35 (lv_at hl 0 rfl) ?_
  refine lv_lload_n hx hb dX12_readsInput_37 rfl (lv_at hl 1 rfl) ?_
  refine W.lcmp hx hb dX12_readsInput_38 ?_
  refine lv_if_ge (tgt := 51) hx hb dX12_readsInput_39 (of_decide_eq_true rfl) (fun c_39 => ?_) (fun c_39 => ?_)
  · have hfn := (if_pos c_39).symm.trans hfn
    exact jp_17 (o_9.2.2.2.1, o_9.2.2.2.2) H locs ls hfn hP hD hS (lv_sub hl [0, 1, 2, 3] rfl)
  have hfn := (if_neg c_39).symm.trans hfn
  refine lv_aload_n hx hb dX12_readsInput_42 rfl (lv_at hl 3 rfl) ?_
  refine lv_iconst (v := 2) hx hb dX12_readsInput_43 zci_2 ?_
  refine lv_aload_n hx hb dX12_readsInput_44 rfl (lv_at hl 3 rfl) ?_
  refine va_get (D := (dC, dI)) (ci := 12) (v := .int o_9.2.2.1) (C := RX12) (T := TX12) (N := 67) hx hb hts zn_X12_readsInput_X12 hown hK hP 0 rfl rfl 7 (of_decide_eq_true rfl) (hts (.fieldLink RX12 32 "ShortEnoughModel" "begun" "I") zw_X12_readsInput_954) (fun _ h9 => h9) rfl dX12_readsInput_45 ?_
  obtain ⟨o_40, hqo_40, hfn⟩ := zb_s hfn
  refine zcVv (ci := 12) (rest := []) (pc' := 51) (ws' := [(h0, .inr (12, zO a0 (zI (zI (zI (zI b0 6 o_9.2.1) 7 o_9.2.2.1) 8 o_40.1) 9 o_40.2) c0)), zVi (a0 0) k1 1200 f1, zVi (a0 10) k2 71 f2, zVi (a0 12) k3 2 f3, zVi (a0 13) k4 8 f4, zVi (a0 17) k5 2 f5, zVi (a0 18) k6 28 f6, zVi (a0 19) k7 28 f7, zVi (a0 20) k8 28 f8, zVi (a0 21) k9 28 f9, zVi (a0 25) k10 28 f10, zVi (a0 26) k11 28 f11, zVi (a0 27) k12 28 f12, zVl (a0 22) k13 28 f13, zVl (a0 23) k14 28 f14]) hP hK hD hS hA ⟨hx, hb, hml, hown, hts⟩ (zf_X12_faults l dC dI h0 2 o_9.2.2.1 a0 (zI (zI (zI (zI b0 6 o_9.2.1) 7 o_9.2.2.1) 8 o_9.2.2.2.1) 9 o_9.2.2.2.2) c0 o_40 hqo_40 H.size) (cwV 2 hts gX12_readsInput_X12_faults rfl rfl rfl zhd_X12_faults ⟨Nat.le_of_ble_eq_true rfl, Nat.le_of_ble_eq_true rfl⟩) [0] rfl (of_decide_eq_true rfl) [] rfl rfl rfl rfl hl.1 rfl (Nat.le_of_ble_eq_true rfl) dX12_readsInput_48 ⟨Nat.le_of_ble_eq_true rfl, Nat.le_of_ble_eq_true rfl⟩ [some 0] (of_decide_eq_true rfl) (of_decide_eq_true rfl) rfl rfl rfl (fun H locs hP hD hS => ?_)
  exact jp_17 (o_40.1, o_40.2) H locs ls hfn hP hD hS (lv_sub hl [0, 1, 2, 3] rfl)
theorem zn_X12_readsWhat_X12 : ∀ w ∈ wsX120, w ∈ wsX12_readsWhat := fun _ h => List.mem_cons_of_mem _ (List.mem_append_right _ h)
theorem zw_X12_readsWhat_960 : Cond.fieldLink RX12 96 "ShortEnoughModel" "whatV" "J" ∈ wsX12_readsWhat := List.mem_of_getElem? (i := 1) (by decide +kernel)
theorem zw_X12_readsWhat_961 : Cond.constantLong RX12 308 (-1000000) ∈ wsX12_readsWhat := List.mem_of_getElem? (i := 3) (by decide +kernel)
theorem zw_X12_readsWhat_962 : Cond.constantLong RX12 288 (1000000) ∈ wsX12_readsWhat := List.mem_of_getElem? (i := 4) (by decide +kernel)
theorem zw_X12_readsWhat_963 : Cond.fieldLink RX12 29 "ShortEnoughModel" "at" "I" ∈ wsX12_readsWhat := List.mem_of_getElem? (i := 2) (by decide +kernel)
set_option maxHeartbeats 4000000 in
set_option maxRecDepth 100000 in
theorem zf_X12_readsWhat (l : Launch) (dC : Nat → ClassId) (dI : Nat → Nat → Nat) (h0 : Nat) (a0 : Nat → Nat) (b0 : Nat → Int32) (c0 : Nat → Int64) (k1 : Nat) (f1 : Nat → Int32) (k2 : Nat) (f2 : Nat → Int32) (k3 : Nat) (f3 : Nat → Int32) (k4 : Nat) (f4 : Nat → Int32) (o : Int32 × Int64 × Int32 × Int32 × Int32 × Int32) (hfn : fn_X12_readsWhat (b0 5) (b0 6) (b0 7) (b0 8) (b0 9) (b0 11) f1 f2 f3 f4 = some o) (sz : Nat) : zMi l yX12_readsWhat wsX12_readsWhat ({ frames := 5, cells := 0, slots := 0, locals := 106 }) (dC, dI) vwCl [.ref h0] [(h0, .inr (12, zO a0 b0 c0)), zVi (a0 0) k1 1200 f1, zVi (a0 10) k2 71 f2, zVi (a0 17) k3 2 f3, zVi (a0 18) k4 28 f4] [(k1, .int), (k2, .int), (k3, .int), (k4, .int)] (fun r _ => r = o.1) [(h0, .inr (12, zO a0 (zI (zI (zI (zI b0 6 o.2.2.1) 7 o.2.2.2.1) 8 o.2.2.2.2.1) 9 o.2.2.2.2.2) (zJ c0 28 o.2.1))), zVi (a0 0) k1 1200 f1, zVi (a0 10) k2 71 f2, zVi (a0 17) k3 2 f3, zVi (a0 18) k4 28 f4] [(k1, .int), (k2, .int), (k3, .int), (k4, .int)] sz := by
  refine zgoi (cc := cX12_readsWhat) (maxL := 1) (ret := (some .int)) (C0 := RX12) (lv0 := [(0, .ref h0)]) zpl_X12 rfl rfl rfl (Nat.le_of_ble_eq_true rfl) ?_
  intro p e s m below meth c A ls Q hx hb hr hts hown hlocks hml hP hK hD hA hS hl hQ
  unfold fn_X12_readsWhat at hfn
  refine lv_aload_n hx hb dX12_readsWhat_0 rfl (lv_at hl 0 rfl) ?_
  refine lv_lconst (v := 0) hx hb dX12_readsWhat_1 (by decide +kernel) ?_
  refine va_put (D := (dC, dI)) (ci := 12) (v := .long 0) (ty := .long) (C := RX12) (T := TX12) (N := 67) hx hb hts zn_X12_readsWhat_X12 tyX12 tyX12_ok nmX12 hown hK hP hD hS 0 rfl rfl 28 (of_decide_eq_true rfl) (hts (.fieldLink RX12 96 "ShortEnoughModel" "whatV" "J") zw_X12_readsWhat_960) (fun _ h9 => h9) rfl (tyX12_ok 28 (of_decide_eq_true rfl)) rfl rfl (Nat.le_of_ble_eq_true rfl) dX12_readsWhat_2 (fun H locs hP hD hS => ?_)
  have hP : va_P (dC, dI) vwCl [(h0, .inr (12, zO a0 b0 (zJ c0 28 0))), zVi (a0 0) k1 1200 f1, zVi (a0 10) k2 71 f2, zVi (a0 17) k3 2 f3, zVi (a0 18) k4 28 f4] H := hP
  have hD := zDW hD hP rfl
  refine lv_aload_n hx hb dX12_readsWhat_5 rfl (lv_at hl 0 rfl) ?_
  obtain ⟨o_1, hqo_1, hfn⟩ := zb_s hfn
  refine zcVb (ci := 12) (rest := []) (pc' := 9) (ws' := [(h0, .inr (12, zO a0 b0 (zJ c0 28 0))), zVi (a0 0) k1 1200 f1, zVi (a0 10) k2 71 f2, zVi (a0 17) k3 2 f3, zVi (a0 18) k4 28 f4]) hP hK hD hS hA ⟨hx, hb, hml, hown, hts⟩ (zf_X12_goesWell l dC dI h0 a0 b0 (zJ c0 28 0) o_1 hqo_1 H.size) (cwV 0 hts gX12_readsWhat_X12_goesWell rfl rfl rfl zhd_X12_goesWell ⟨Nat.le_of_ble_eq_true rfl, Nat.le_of_ble_eq_true rfl⟩) [0] rfl (of_decide_eq_true rfl) [] rfl rfl rfl rfl hl.1 rfl (Nat.le_of_ble_eq_true rfl) dX12_readsWhat_6 ⟨Nat.le_of_ble_eq_true rfl, Nat.le_of_ble_eq_true rfl⟩ [some 0] (of_decide_eq_true rfl) (of_decide_eq_true rfl) rfl rfl rfl (fun H locs hw_4n hP hD hS => ?_)
  refine lv_if_eq (tgt := 48) hx hb dX12_readsWhat_9 (of_decide_eq_true rfl) (fun c_5 => ?_) (fun c_5 => ?_)
  · have hfn := (if_pos c_5).symm.trans hfn
    refine lv_aload_n hx hb dX12_readsWhat_48 rfl (lv_at hl 0 rfl) ?_
    obtain ⟨o_6, hqo_6, hfn⟩ := zb_s hfn
    refine zcVi (ci := 12) (rest := []) (pc' := 52) (ws' := [(h0, .inr (12, zO a0 (zI (zI (zI (zI b0 6 o_6.2.1) 7 o_6.2.2.1) 8 o_6.2.2.2.1) 9 o_6.2.2.2.2) (zJ c0 28 0))), zVi (a0 0) k1 1200 f1, zVi (a0 10) k2 71 f2, zVi (a0 17) k3 2 f3, zVi (a0 18) k4 28 f4]) hP hK hD hS hA ⟨hx, hb, hml, hown, hts⟩ (zf_X12_toldNumber l dC dI h0 a0 b0 (zJ c0 28 0) k1 f1 k2 f2 k3 f3 k4 f4 o_6 hqo_6 H.size) (cwV 0 hts gX12_readsWhat_X12_toldNumber rfl rfl rfl zhd_X12_toldNumber ⟨Nat.le_of_ble_eq_true rfl, Nat.le_of_ble_eq_true rfl⟩) [0, 1, 2, 3, 4] rfl (of_decide_eq_true rfl) [0, 1, 2, 3] rfl rfl rfl rfl hl.1 rfl (Nat.le_of_ble_eq_true rfl) dX12_readsWhat_49 ⟨Nat.le_of_ble_eq_true rfl, Nat.le_of_ble_eq_true rfl⟩ [some 0, some 1, some 2, some 3, some 4] (of_decide_eq_true rfl) (of_decide_eq_true rfl) rfl rfl rfl (fun H locs hP hD hS => ?_)
    have ho := Option.some.inj hfn
    subst ho
    exact zri hx hb hr hK hP hD hS hQ rfl hlocks dX12_readsWhat_52
  have hfn := (if_neg c_5).symm.trans hfn
  refine lv_aload_n hx hb dX12_readsWhat_12 rfl (lv_at hl 0 rfl) ?_
  obtain ⟨o_10, hqo_10, hfn⟩ := zb_s hfn
  refine zcVi (ci := 12) (rest := []) (pc' := 16) (ws' := [(h0, .inr (12, zO a0 (zI b0 6 o_10.2) (zJ c0 28 0))), zVi (a0 0) k1 1200 f1, zVi (a0 10) k2 71 f2, zVi (a0 17) k3 2 f3, zVi (a0 18) k4 28 f4]) hP hK hD hS hA ⟨hx, hb, hml, hown, hts⟩ (zf_X12_here l dC dI h0 a0 b0 (zJ c0 28 0) k1 f1 o_10 hqo_10 H.size) (cwV 0 hts gX12_readsWhat_X12_here rfl rfl rfl zhd_X12_here ⟨Nat.le_of_ble_eq_true rfl, Nat.le_of_ble_eq_true rfl⟩) [0, 1] rfl (of_decide_eq_true rfl) [0] rfl rfl rfl rfl hl.1 rfl (Nat.le_of_ble_eq_true rfl) dX12_readsWhat_13 ⟨Nat.le_of_ble_eq_true rfl, Nat.le_of_ble_eq_true rfl⟩ [some 0, some 1] (of_decide_eq_true rfl) (of_decide_eq_true rfl) rfl rfl rfl (fun H locs hP hD hS => ?_)
  refine lv_bipush (v := 45) hx hb dX12_readsWhat_16 zcb_45 ?_
  refine lv_icmp_eq (tgt := 32) hx hb dX12_readsWhat_18 (of_decide_eq_true rfl) (fun c_14 => ?_) (fun c_14 => ?_)
  · have hfn := (if_pos c_14).symm.trans hfn
    refine lv_aload_n hx hb dX12_readsWhat_32 rfl (lv_at hl 0 rfl) ?_
    refine lv_aload_n hx hb dX12_readsWhat_33 rfl (lv_at hl 0 rfl) ?_
    refine lv_ldc2 (v := (-1000000)) hx hb hown (hts (.constantLong RX12 308 (-1000000)) zw_X12_readsWhat_961) dX12_readsWhat_34 ?_
    refine lv_ldc2 (v := 1000000) hx hb hown (hts (.constantLong RX12 288 (1000000)) zw_X12_readsWhat_962) dX12_readsWhat_37 ?_
    obtain ⟨o_15, hqo_15, hfn⟩ := zb_s hfn
    refine zcVl (ci := 12) (rest := [.ref h0]) (pc' := 43) (ws' := [(h0, .inr (12, zO a0 (zI (zI (zI (zI b0 6 o_15.2.1) 7 o_15.2.2.1) 8 o_15.2.2.2.1) 9 o_15.2.2.2.2) (zJ c0 28 0))), zVi (a0 0) k1 1200 f1, zVi (a0 10) k2 71 f2, zVi (a0 17) k3 2 f3, zVi (a0 18) k4 28 f4]) hP hK hD hS hA ⟨hx, hb, hml, hown, hts⟩ (zf_X12_signed l dC dI h0 ((-1000000) : Int64) (1000000 : Int64) a0 (zI b0 6 o_10.2) (zJ c0 28 0) k1 f1 o_15 hqo_15 H.size) (cwV 2 hts gX12_readsWhat_X12_signed rfl rfl rfl zhd_X12_signed ⟨Nat.le_of_ble_eq_true rfl, Nat.le_of_ble_eq_true rfl⟩) [0, 1] rfl (of_decide_eq_true rfl) [0] rfl rfl rfl rfl hl.1 rfl (Nat.le_of_ble_eq_true rfl) dX12_readsWhat_40 ⟨Nat.le_of_ble_eq_true rfl, Nat.le_of_ble_eq_true rfl⟩ [some 0, some 1] (of_decide_eq_true rfl) (of_decide_eq_true rfl) rfl rfl rfl (fun H locs hP hD hS => ?_)
    refine va_put (D := (dC, dI)) (ci := 12) (v := .long o_15.1) (ty := .long) (C := RX12) (T := TX12) (N := 67) hx hb hts zn_X12_readsWhat_X12 tyX12 tyX12_ok nmX12 hown hK hP hD hS 0 rfl rfl 28 (of_decide_eq_true rfl) (hts (.fieldLink RX12 96 "ShortEnoughModel" "whatV" "J") zw_X12_readsWhat_960) (fun _ h9 => h9) rfl (tyX12_ok 28 (of_decide_eq_true rfl)) rfl rfl (Nat.le_of_ble_eq_true rfl) dX12_readsWhat_43 (fun H locs hP hD hS => ?_)
    have hP : va_P (dC, dI) vwCl [(h0, .inr (12, zO a0 (zI (zI (zI (zI b0 6 o_15.2.1) 7 o_15.2.2.1) 8 o_15.2.2.2.1) 9 o_15.2.2.2.2) (zJ c0 28 o_15.1))), zVi (a0 0) k1 1200 f1, zVi (a0 10) k2 71 f2, zVi (a0 17) k3 2 f3, zVi (a0 18) k4 28 f4] H := hP
    have hD := zDW hD hP rfl
    refine lv_iconst (v := (-1)) hx hb dX12_readsWhat_46 zci_m1 ?_
    have ho := Option.some.inj hfn
    subst ho
    exact zri hx hb hr hK hP hD hS hQ rfl hlocks dX12_readsWhat_47
  have hfn := (if_neg c_14).symm.trans hfn
  refine lv_aload_n hx hb dX12_readsWhat_21 rfl (lv_at hl 0 rfl) ?_
  refine lv_aload_n hx hb dX12_readsWhat_22 rfl (lv_at hl 0 rfl) ?_
  refine va_get (D := (dC, dI)) (ci := 12) (v := .int o_10.2) (C := RX12) (T := TX12) (N := 67) hx hb hts zn_X12_readsWhat_X12 hown hK hP 0 rfl rfl 6 (of_decide_eq_true rfl) (hts (.fieldLink RX12 29 "ShortEnoughModel" "at" "I") zw_X12_readsWhat_963) (fun _ h9 => h9) rfl dX12_readsWhat_23 ?_
  obtain ⟨o_19, hqo_19, hfn⟩ := zb_s hfn
  refine zcVb (ci := 12) (rest := []) (pc' := 29) (ws' := [(h0, .inr (12, zO a0 (zI b0 6 o_10.2) (zJ c0 28 0))), zVi (a0 0) k1 1200 f1, zVi (a0 10) k2 71 f2, zVi (a0 17) k3 2 f3, zVi (a0 18) k4 28 f4]) hP hK hD hS hA ⟨hx, hb, hml, hown, hts⟩ (zf_X12_isDigit l dC dI h0 o_10.2 a0 (zI b0 6 o_10.2) (zJ c0 28 0) k1 f1 o_19 hqo_19 H.size) (cwV 1 hts gX12_readsWhat_X12_isDigit rfl rfl rfl zhd_X12_isDigit ⟨Nat.le_of_ble_eq_true rfl, Nat.le_of_ble_eq_true rfl⟩) [0, 1] rfl (of_decide_eq_true rfl) [0] rfl rfl rfl rfl hl.1 rfl (Nat.le_of_ble_eq_true rfl) dX12_readsWhat_26 ⟨Nat.le_of_ble_eq_true rfl, Nat.le_of_ble_eq_true rfl⟩ [some 0, some 1] (of_decide_eq_true rfl) (of_decide_eq_true rfl) rfl rfl rfl (fun H locs hw_22n hP hD hS => ?_)
  refine lv_if_eq (tgt := 48) hx hb dX12_readsWhat_29 (of_decide_eq_true rfl) (fun c_23 => ?_) (fun c_23 => ?_)
  · have hfn := (if_pos c_23).symm.trans hfn
    refine lv_aload_n hx hb dX12_readsWhat_48 rfl (lv_at hl 0 rfl) ?_
    obtain ⟨o_24, hqo_24, hfn⟩ := zb_s hfn
    refine zcVi (ci := 12) (rest := []) (pc' := 52) (ws' := [(h0, .inr (12, zO a0 (zI (zI (zI (zI b0 6 o_24.2.1) 7 o_24.2.2.1) 8 o_24.2.2.2.1) 9 o_24.2.2.2.2) (zJ c0 28 0))), zVi (a0 0) k1 1200 f1, zVi (a0 10) k2 71 f2, zVi (a0 17) k3 2 f3, zVi (a0 18) k4 28 f4]) hP hK hD hS hA ⟨hx, hb, hml, hown, hts⟩ (zf_X12_toldNumber l dC dI h0 a0 (zI b0 6 o_10.2) (zJ c0 28 0) k1 f1 k2 f2 k3 f3 k4 f4 o_24 hqo_24 H.size) (cwV 0 hts gX12_readsWhat_X12_toldNumber rfl rfl rfl zhd_X12_toldNumber ⟨Nat.le_of_ble_eq_true rfl, Nat.le_of_ble_eq_true rfl⟩) [0, 1, 2, 3, 4] rfl (of_decide_eq_true rfl) [0, 1, 2, 3] rfl rfl rfl rfl hl.1 rfl (Nat.le_of_ble_eq_true rfl) dX12_readsWhat_49 ⟨Nat.le_of_ble_eq_true rfl, Nat.le_of_ble_eq_true rfl⟩ [some 0, some 1, some 2, some 3, some 4] (of_decide_eq_true rfl) (of_decide_eq_true rfl) rfl rfl rfl (fun H locs hP hD hS => ?_)
    have ho := Option.some.inj hfn
    subst ho
    exact zri hx hb hr hK hP hD hS hQ rfl hlocks dX12_readsWhat_52
  have hfn := (if_neg c_23).symm.trans hfn
  refine lv_aload_n hx hb dX12_readsWhat_32 rfl (lv_at hl 0 rfl) ?_
  refine lv_aload_n hx hb dX12_readsWhat_33 rfl (lv_at hl 0 rfl) ?_
  refine lv_ldc2 (v := (-1000000)) hx hb hown (hts (.constantLong RX12 308 (-1000000)) zw_X12_readsWhat_961) dX12_readsWhat_34 ?_
  refine lv_ldc2 (v := 1000000) hx hb hown (hts (.constantLong RX12 288 (1000000)) zw_X12_readsWhat_962) dX12_readsWhat_37 ?_
  obtain ⟨o_28, hqo_28, hfn⟩ := zb_s hfn
  refine zcVl (ci := 12) (rest := [.ref h0]) (pc' := 43) (ws' := [(h0, .inr (12, zO a0 (zI (zI (zI (zI b0 6 o_28.2.1) 7 o_28.2.2.1) 8 o_28.2.2.2.1) 9 o_28.2.2.2.2) (zJ c0 28 0))), zVi (a0 0) k1 1200 f1, zVi (a0 10) k2 71 f2, zVi (a0 17) k3 2 f3, zVi (a0 18) k4 28 f4]) hP hK hD hS hA ⟨hx, hb, hml, hown, hts⟩ (zf_X12_signed l dC dI h0 ((-1000000) : Int64) (1000000 : Int64) a0 (zI b0 6 o_10.2) (zJ c0 28 0) k1 f1 o_28 hqo_28 H.size) (cwV 2 hts gX12_readsWhat_X12_signed rfl rfl rfl zhd_X12_signed ⟨Nat.le_of_ble_eq_true rfl, Nat.le_of_ble_eq_true rfl⟩) [0, 1] rfl (of_decide_eq_true rfl) [0] rfl rfl rfl rfl hl.1 rfl (Nat.le_of_ble_eq_true rfl) dX12_readsWhat_40 ⟨Nat.le_of_ble_eq_true rfl, Nat.le_of_ble_eq_true rfl⟩ [some 0, some 1] (of_decide_eq_true rfl) (of_decide_eq_true rfl) rfl rfl rfl (fun H locs hP hD hS => ?_)
  refine va_put (D := (dC, dI)) (ci := 12) (v := .long o_28.1) (ty := .long) (C := RX12) (T := TX12) (N := 67) hx hb hts zn_X12_readsWhat_X12 tyX12 tyX12_ok nmX12 hown hK hP hD hS 0 rfl rfl 28 (of_decide_eq_true rfl) (hts (.fieldLink RX12 96 "ShortEnoughModel" "whatV" "J") zw_X12_readsWhat_960) (fun _ h9 => h9) rfl (tyX12_ok 28 (of_decide_eq_true rfl)) rfl rfl (Nat.le_of_ble_eq_true rfl) dX12_readsWhat_43 (fun H locs hP hD hS => ?_)
  have hP : va_P (dC, dI) vwCl [(h0, .inr (12, zO a0 (zI (zI (zI (zI b0 6 o_28.2.1) 7 o_28.2.2.1) 8 o_28.2.2.2.1) 9 o_28.2.2.2.2) (zJ c0 28 o_28.1))), zVi (a0 0) k1 1200 f1, zVi (a0 10) k2 71 f2, zVi (a0 17) k3 2 f3, zVi (a0 18) k4 28 f4] H := hP
  have hD := zDW hD hP rfl
  refine lv_iconst (v := (-1)) hx hb dX12_readsWhat_46 zci_m1 ?_
  have ho := Option.some.inj hfn
  subst ho
  exact zri hx hb hr hK hP hD hS hQ rfl hlocks dX12_readsWhat_47
theorem zn_X12_readsOp_X12 : ∀ w ∈ wsX120, w ∈ wsX12_readsOp := fun _ h => List.mem_cons_of_mem _ (List.mem_append_right _ h)
theorem zw_X12_readsOp_965 : Cond.fieldLink RX12 32 "ShortEnoughModel" "begun" "I" ∈ wsX12_readsOp := List.mem_of_getElem? (i := 2) (by decide +kernel)
theorem zw_X12_readsOp_966 : Cond.fieldLink RX12 29 "ShortEnoughModel" "at" "I" ∈ wsX12_readsOp := List.mem_of_getElem? (i := 1) (by decide +kernel)
set_option maxHeartbeats 4000000 in
set_option maxRecDepth 100000 in
theorem zf_X12_readsOp (l : Launch) (dC : Nat → ClassId) (dI : Nat → Nat → Nat) (h0 : Nat) (a0 : Nat → Nat) (b0 : Nat → Int32) (c0 : Nat → Int64) (k1 : Nat) (f1 : Nat → Int32) (k2 : Nat) (f2 : Nat → Int32) (o : Int32 × Int32 × Int32 × Int32 × Int32) (hfn : fn_X12_readsOp (b0 5) (b0 6) (b0 7) (b0 8) (b0 9) f1 f2 = some o) (sz : Nat) : zMi l yX12_readsOp wsX12_readsOp ({ frames := 3, cells := 0, slots := 0, locals := 62 }) (dC, dI) vwCl [.ref h0] [(h0, .inr (12, zO a0 b0 c0)), zVi (a0 0) k1 1200 f1, zVi (a0 10) k2 71 f2] [(k1, .int), (k2, .int)] (fun r _ => r = o.1) [(h0, .inr (12, zO a0 (zI (zI (zI (zI b0 6 o.2.1) 7 o.2.2.1) 8 o.2.2.2.1) 9 o.2.2.2.2) c0)), zVi (a0 0) k1 1200 f1, zVi (a0 10) k2 71 f2] [(k1, .int), (k2, .int)] sz := by
  refine zgoi (cc := cX12_readsOp) (maxL := 3) (ret := (some .int)) (C0 := RX12) (lv0 := [(0, .ref h0)]) zpl_X12 rfl rfl rfl (Nat.le_of_ble_eq_true rfl) ?_
  intro p e s m below meth c A ls Q hx hb hr hts hown hlocks hml hP hK hD hA hS hl hQ
  unfold fn_X12_readsOp at hfn
  refine lv_aload_n hx hb dX12_readsOp_0 rfl (lv_at hl 0 rfl) ?_
  obtain ⟨o_1, hqo_1, hfn⟩ := zb_s hfn
  refine zcVb (ci := 12) (rest := []) (pc' := 4) (ws' := [(h0, .inr (12, zO a0 b0 c0)), zVi (a0 0) k1 1200 f1, zVi (a0 10) k2 71 f2]) hP hK hD hS hA ⟨hx, hb, hml, hown, hts⟩ (zf_X12_goesWell l dC dI h0 a0 b0 c0 o_1 hqo_1 s.heap.size) (cwV 0 hts gX12_readsOp_X12_goesWell rfl rfl rfl zhd_X12_goesWell ⟨Nat.le_of_ble_eq_true rfl, Nat.le_of_ble_eq_true rfl⟩) [0] rfl (of_decide_eq_true rfl) [] rfl rfl rfl rfl hl.1 rfl (Nat.le_of_ble_eq_true rfl) dX12_readsOp_1 ⟨Nat.le_of_ble_eq_true rfl, Nat.le_of_ble_eq_true rfl⟩ [some 0] (of_decide_eq_true rfl) (of_decide_eq_true rfl) rfl rfl rfl (fun H locs hw_4n hP hD hS => ?_)
  refine lv_if_ne (tgt := 9) hx hb dX12_readsOp_4 (of_decide_eq_true rfl) (fun c_5 => ?_) (fun c_5 => ?_)
  · have hfn := (if_neg c_5).symm.trans hfn
    refine lv_aload_n hx hb dX12_readsOp_9 rfl (lv_at hl 0 rfl) ?_
    obtain ⟨o_6, hqo_6, hfn⟩ := zb_s hfn
    refine zcVi (ci := 12) (rest := []) (pc' := 13) (ws' := [(h0, .inr (12, zO a0 (zI b0 6 o_6.2) c0)), zVi (a0 0) k1 1200 f1, zVi (a0 10) k2 71 f2]) hP hK hD hS hA ⟨hx, hb, hml, hown, hts⟩ (zf_X12_here l dC dI h0 a0 b0 c0 k1 f1 o_6 hqo_6 H.size) (cwV 0 hts gX12_readsOp_X12_here rfl rfl rfl zhd_X12_here ⟨Nat.le_of_ble_eq_true rfl, Nat.le_of_ble_eq_true rfl⟩) [0, 1] rfl (of_decide_eq_true rfl) [0] rfl rfl rfl rfl hl.1 rfl (Nat.le_of_ble_eq_true rfl) dX12_readsOp_10 ⟨Nat.le_of_ble_eq_true rfl, Nat.le_of_ble_eq_true rfl⟩ [some 0, some 1] (of_decide_eq_true rfl) (of_decide_eq_true rfl) rfl rfl rfl (fun H locs hP hD hS => ?_)
    refine lv_istore_n (lv' := [(1, .int o_6.1), (0, .ref h0)]) hx hb dX12_readsOp_13 rfl hl (of_decide_eq_true rfl) rfl (fun ls hl => ?_)
    refine lv_iload_n hx hb dX12_readsOp_14 rfl (lv_at hl 0 rfl) ?_
    refine lv_bipush (v := 43) hx hb dX12_readsOp_15 zcb_43 ?_
    obtain ⟨j_10, ej_10, hfn⟩ := zj_g hfn
    have jp_10 : ∀ (s_10 : Unit) (H : Heap) (locs : List Loc) (ls : Array Slot), j_10 s_10 = some o → va_P (dC, dI) vwCl [(h0, .inr (12, zO a0 (zI b0 6 o_6.2) c0)), zVi (a0 0) k1 1200 f1, zVi (a0 10) k2 71 f2] H → va_D A [(h0, .inr (12, zO a0 (zI b0 6 o_6.2) c0)), zVi (a0 0) k1 1200 f1, zVi (a0 10) k2 71 f2] → va_S A s.heap H locs → lv_has ls 3 [(1, .int o_6.1), (0, .ref h0)] → W p l e (headSpec wsX12_readsOp ({ frames := 3, cells := 0, slots := 0, locals := 62 })).room s m ([.ref h0] : List Value).toArray below meth c H locs 0 0 Q (F0 m 32 ls []) := by
      intro s_10 H locs ls hfn hP hD hS hl
      have hfn := zj_s ej_10 hfn
      refine lv_aload_n hx hb dX12_readsOp_32 rfl (lv_at hl 1 rfl) ?_
      refine lv_dup hx hb dX12_readsOp_33 rfl ?_
      refine va_get (D := (dC, dI)) (ci := 12) (v := .int o_6.2) (C := RX12) (T := TX12) (N := 67) hx hb hts zn_X12_readsOp_X12 hown hK hP 0 rfl rfl 6 (of_decide_eq_true rfl) (hts (.fieldLink RX12 29 "ShortEnoughModel" "at" "I") zw_X12_readsOp_966) (fun _ h9 => h9) rfl dX12_readsOp_34 ?_
      refine lv_iconst (v := 1) hx hb dX12_readsOp_37 zci_1 ?_
      refine lv_iadd hx hb dX12_readsOp_38 ?_
      refine va_put (D := (dC, dI)) (ci := 12) (v := .int (o_6.2 + 1)) (ty := .int) (C := RX12) (T := TX12) (N := 67) hx hb hts zn_X12_readsOp_X12 tyX12 tyX12_ok nmX12 hown hK hP hD hS 0 rfl rfl 6 (of_decide_eq_true rfl) (hts (.fieldLink RX12 29 "ShortEnoughModel" "at" "I") zw_X12_readsOp_966) (fun _ h9 => h9) rfl (tyX12_ok 6 (of_decide_eq_true rfl)) rfl rfl (Nat.le_of_ble_eq_true rfl) dX12_readsOp_39 (fun H locs hP hD hS => ?_)
      have hP : va_P (dC, dI) vwCl [(h0, .inr (12, zO a0 (zI b0 6 (o_6.2 + 1)) c0)), zVi (a0 0) k1 1200 f1, zVi (a0 10) k2 71 f2] H := hP
      have hD := zDW hD hP rfl
      refine lv_iload_n hx hb dX12_readsOp_42 rfl (lv_at hl 0 rfl) ?_
      refine lv_bipush (v := 43) hx hb dX12_readsOp_43 zcb_43 ?_
      refine lv_icmp_ne (tgt := 52) hx hb dX12_readsOp_45 (of_decide_eq_true rfl) (fun c_11 => ?_) (fun c_11 => ?_)
      · have hfn := (if_neg c_11).symm.trans hfn
        refine lv_iload_n hx hb dX12_readsOp_52 rfl (lv_at hl 0 rfl) ?_
        refine lv_bipush (v := 45) hx hb dX12_readsOp_53 zcb_45 ?_
        refine lv_icmp_ne (tgt := 62) hx hb dX12_readsOp_55 (of_decide_eq_true rfl) (fun c_12 => ?_) (fun c_12 => ?_)
        · have hfn := (if_neg c_12).symm.trans hfn
          refine lv_iconst (v := 3) hx hb dX12_readsOp_62 zci_3 ?_
          have ho := Option.some.inj hfn
          subst ho
          exact zri hx hb hr hK hP hD hS hQ rfl hlocks dX12_readsOp_63
        have hfn := (if_pos c_12).symm.trans hfn
        refine lv_iconst (v := 2) hx hb dX12_readsOp_58 zci_2 ?_
        refine lv_goto (tgt := 63) hx hb dX12_readsOp_59 (of_decide_eq_true rfl) ?_
        have ho := Option.some.inj hfn
        subst ho
        exact zri hx hb hr hK hP hD hS hQ rfl hlocks dX12_readsOp_63
      have hfn := (if_pos c_11).symm.trans hfn
      refine lv_iconst (v := 1) hx hb dX12_readsOp_48 zci_1 ?_
      refine lv_goto (tgt := 63) hx hb dX12_readsOp_49 (of_decide_eq_true rfl) ?_
      have ho := Option.some.inj hfn
      subst ho
      exact zri hx hb hr hK hP hD hS hQ rfl hlocks dX12_readsOp_63
    refine lv_icmp_eq (tgt := 32) hx hb dX12_readsOp_17 (of_decide_eq_true rfl) (fun c_13 => ?_) (fun c_13 => ?_)
    · have hfn := (if_pos c_13).symm.trans hfn
      exact jp_10 () H locs ls hfn hP hD hS (lv_sub hl [0, 1] rfl)
    have hfn := (if_neg c_13).symm.trans hfn
    refine lv_iload_n hx hb dX12_readsOp_20 rfl (lv_at hl 0 rfl) ?_
    refine lv_bipush (v := 45) hx hb dX12_readsOp_21 zcb_45 ?_
    refine lv_icmp_eq (tgt := 32) hx hb dX12_readsOp_23 (of_decide_eq_true rfl) (fun c_14 => ?_) (fun c_14 => ?_)
    · have hfn := (if_pos c_14).symm.trans hfn
      exact jp_10 () H locs ls hfn hP hD hS (lv_sub hl [0, 1] rfl)
    have hfn := (if_neg c_14).symm.trans hfn
    refine lv_iload_n hx hb dX12_readsOp_26 rfl (lv_at hl 0 rfl) ?_
    refine lv_bipush (v := 42) hx hb dX12_readsOp_27 zcb_42 ?_
    refine lv_icmp_ne (tgt := 64) hx hb dX12_readsOp_29 (of_decide_eq_true rfl) (fun c_15 => ?_) (fun c_15 => ?_)
    · have hfn := (if_neg c_15).symm.trans hfn
      refine lv_aload_n hx hb dX12_readsOp_64 rfl (lv_at hl 1 rfl) ?_
      obtain ⟨o_16, hqo_16, hfn⟩ := zb_s hfn
      refine zcVv (ci := 12) (rest := []) (pc' := 68) (ws' := [(h0, .inr (12, zO a0 (zI (zI (zI (zI b0 6 o_16.1) 7 o_16.2.1) 8 o_16.2.2.1) 9 o_16.2.2.2) c0)), zVi (a0 0) k1 1200 f1, zVi (a0 10) k2 71 f2]) hP hK hD hS hA ⟨hx, hb, hml, hown, hts⟩ (zf_X12_word l dC dI h0 a0 (zI b0 6 o_6.2) c0 k1 f1 o_16 hqo_16 H.size) (cwV 0 hts gX12_readsOp_X12_word rfl rfl rfl zhd_X12_word ⟨Nat.le_of_ble_eq_true rfl, Nat.le_of_ble_eq_true rfl⟩) [0, 1] rfl (of_decide_eq_true rfl) [0] rfl rfl rfl rfl hl.1 rfl (Nat.le_of_ble_eq_true rfl) dX12_readsOp_65 ⟨Nat.le_of_ble_eq_true rfl, Nat.le_of_ble_eq_true rfl⟩ [some 0, some 1] (of_decide_eq_true rfl) (of_decide_eq_true rfl) rfl rfl rfl (fun H locs hP hD hS => ?_)
      refine lv_aload_n hx hb dX12_readsOp_68 rfl (lv_at hl 1 rfl) ?_
      obtain ⟨o_20, hqo_20, hfn⟩ := zb_s hfn
      refine zcVb (ci := 12) (rest := []) (pc' := 72) (ws' := [(h0, .inr (12, zO a0 (zI (zI (zI (zI b0 6 o_16.1) 7 o_16.2.1) 8 o_16.2.2.1) 9 o_16.2.2.2) c0)), zVi (a0 0) k1 1200 f1, zVi (a0 10) k2 71 f2]) hP hK hD hS hA ⟨hx, hb, hml, hown, hts⟩ (zf_X12_goesWell l dC dI h0 a0 (zI (zI (zI (zI b0 6 o_16.1) 7 o_16.2.1) 8 o_16.2.2.1) 9 o_16.2.2.2) c0 o_20 hqo_20 H.size) (cwV 0 hts gX12_readsOp_X12_goesWell rfl rfl rfl zhd_X12_goesWell ⟨Nat.le_of_ble_eq_true rfl, Nat.le_of_ble_eq_true rfl⟩) [0] rfl (of_decide_eq_true rfl) [] rfl rfl rfl rfl hl.1 rfl (Nat.le_of_ble_eq_true rfl) dX12_readsOp_69 ⟨Nat.le_of_ble_eq_true rfl, Nat.le_of_ble_eq_true rfl⟩ [some 0] (of_decide_eq_true rfl) (of_decide_eq_true rfl) rfl rfl rfl (fun H locs hw_23n hP hD hS => ?_)
      obtain ⟨j_24, ej_24, hfn⟩ := zj_g hfn
      have jp_24 : ∀ (s_24 : Int32) (H : Heap) (locs : List Loc) (ls : Array Slot), j_24 s_24 = some o → va_P (dC, dI) vwCl [(h0, .inr (12, zO a0 (zI (zI (zI (zI b0 6 o_16.1) 7 o_16.2.1) 8 o_16.2.2.1) 9 o_16.2.2.2) c0)), zVi (a0 0) k1 1200 f1, zVi (a0 10) k2 71 f2] H → va_D A [(h0, .inr (12, zO a0 (zI (zI (zI (zI b0 6 o_16.1) 7 o_16.2.1) 8 o_16.2.2.1) 9 o_16.2.2.2) c0)), zVi (a0 0) k1 1200 f1, zVi (a0 10) k2 71 f2] → va_S A s.heap H locs → lv_has ls 3 [(0, .ref h0)] → W p l e (headSpec wsX12_readsOp ({ frames := 3, cells := 0, slots := 0, locals := 62 })).room s m ([.ref h0] : List Value).toArray below meth c H locs 0 0 Q (F0 m 83 ls [.int s_24]) := by
        intro s_24 H locs ls hfn hP hD hS hl
        have hfn := zj_s ej_24 hfn
        refine lv_istore_n (lv' := [(2, .int s_24), (0, .ref h0)]) hx hb dX12_readsOp_83 rfl hl (of_decide_eq_true rfl) rfl (fun ls hl => ?_)
        refine lv_aload_n hx hb dX12_readsOp_84 rfl (lv_at hl 1 rfl) ?_
        obtain ⟨o_25, hqo_25, hfn⟩ := zb_s hfn
        refine zcVb (ci := 12) (rest := []) (pc' := 88) (ws' := [(h0, .inr (12, zO a0 (zI (zI (zI (zI b0 6 o_16.1) 7 o_16.2.1) 8 o_16.2.2.1) 9 o_16.2.2.2) c0)), zVi (a0 0) k1 1200 f1, zVi (a0 10) k2 71 f2]) hP hK hD hS hA ⟨hx, hb, hml, hown, hts⟩ (zf_X12_goesWell l dC dI h0 a0 (zI (zI (zI (zI b0 6 o_16.1) 7 o_16.2.1) 8 o_16.2.2.1) 9 o_16.2.2.2) c0 o_25 hqo_25 H.size) (cwV 0 hts gX12_readsOp_X12_goesWell rfl rfl rfl zhd_X12_goesWell ⟨Nat.le_of_ble_eq_true rfl, Nat.le_of_ble_eq_true rfl⟩) [0] rfl (of_decide_eq_true rfl) [] rfl rfl rfl rfl hl.1 rfl (Nat.le_of_ble_eq_true rfl) dX12_readsOp_85 ⟨Nat.le_of_ble_eq_true rfl, Nat.le_of_ble_eq_true rfl⟩ [some 0] (of_decide_eq_true rfl) (of_decide_eq_true rfl) rfl rfl rfl (fun H locs hw_28n hP hD hS => ?_)
        refine lv_if_eq (tgt := 112) hx hb dX12_readsOp_88 (of_decide_eq_true rfl) (fun c_29 => ?_) (fun c_29 => ?_)
        · have hfn := (if_pos c_29).symm.trans hfn
          refine lv_iload_n hx hb dX12_readsOp_112 rfl (lv_at hl 0 rfl) ?_
          refine lv_bipush (v := 7) hx hb dX12_readsOp_113 zcb_7 ?_
          refine lv_icmp_ne (tgt := 122) hx hb dX12_readsOp_115 (of_decide_eq_true rfl) (fun c_30 => ?_) (fun c_30 => ?_)
          · have hfn := (if_neg c_30).symm.trans hfn
            refine lv_iconst (v := 5) hx hb dX12_readsOp_122 zci_5 ?_
            have ho := Option.some.inj hfn
            subst ho
            exact zri hx hb hr hK hP hD hS hQ rfl hlocks dX12_readsOp_123
          have hfn := (if_pos c_30).symm.trans hfn
          refine lv_iconst (v := 4) hx hb dX12_readsOp_118 zci_4 ?_
          refine lv_goto (tgt := 123) hx hb dX12_readsOp_119 (of_decide_eq_true rfl) ?_
          have ho := Option.some.inj hfn
          subst ho
          exact zri hx hb hr hK hP hD hS hQ rfl hlocks dX12_readsOp_123
        have hfn := (if_neg c_29).symm.trans hfn
        refine lv_iload_n hx hb dX12_readsOp_91 rfl (lv_at hl 0 rfl) ?_
        refine lv_bipush (v := 7) hx hb dX12_readsOp_92 zcb_7 ?_
        refine lv_icmp_eq (tgt := 112) hx hb dX12_readsOp_94 (of_decide_eq_true rfl) (fun c_31 => ?_) (fun c_31 => ?_)
        · have hfn := (if_pos c_31).symm.trans hfn
          refine lv_iload_n hx hb dX12_readsOp_112 rfl (lv_at hl 0 rfl) ?_
          refine lv_bipush (v := 7) hx hb dX12_readsOp_113 zcb_7 ?_
          refine lv_icmp_ne (tgt := 122) hx hb dX12_readsOp_115 (of_decide_eq_true rfl) (fun c_32 => ?_) (fun c_32 => ?_)
          · have hfn := (if_neg c_32).symm.trans hfn
            refine lv_iconst (v := 5) hx hb dX12_readsOp_122 zci_5 ?_
            have ho := Option.some.inj hfn
            subst ho
            exact zri hx hb hr hK hP hD hS hQ rfl hlocks dX12_readsOp_123
          have hfn := (if_pos c_32).symm.trans hfn
          refine lv_iconst (v := 4) hx hb dX12_readsOp_118 zci_4 ?_
          refine lv_goto (tgt := 123) hx hb dX12_readsOp_119 (of_decide_eq_true rfl) ?_
          have ho := Option.some.inj hfn
          subst ho
          exact zri hx hb hr hK hP hD hS hQ rfl hlocks dX12_readsOp_123
        have hfn := (if_neg c_31).symm.trans hfn
        refine lv_iload_n hx hb dX12_readsOp_97 rfl (lv_at hl 0 rfl) ?_
        refine lv_bipush (v := 8) hx hb dX12_readsOp_98 zcb_8 ?_
        refine lv_icmp_eq (tgt := 112) hx hb dX12_readsOp_100 (of_decide_eq_true rfl) (fun c_33 => ?_) (fun c_33 => ?_)
        · have hfn := (if_pos c_33).symm.trans hfn
          refine lv_iload_n hx hb dX12_readsOp_112 rfl (lv_at hl 0 rfl) ?_
          refine lv_bipush (v := 7) hx hb dX12_readsOp_113 zcb_7 ?_
          refine lv_icmp_ne (tgt := 122) hx hb dX12_readsOp_115 (of_decide_eq_true rfl) (fun c_34 => ?_) (fun c_34 => ?_)
          · have hfn := (if_neg c_34).symm.trans hfn
            refine lv_iconst (v := 5) hx hb dX12_readsOp_122 zci_5 ?_
            have ho := Option.some.inj hfn
            subst ho
            exact zri hx hb hr hK hP hD hS hQ rfl hlocks dX12_readsOp_123
          have hfn := (if_pos c_34).symm.trans hfn
          refine lv_iconst (v := 4) hx hb dX12_readsOp_118 zci_4 ?_
          refine lv_goto (tgt := 123) hx hb dX12_readsOp_119 (of_decide_eq_true rfl) ?_
          have ho := Option.some.inj hfn
          subst ho
          exact zri hx hb hr hK hP hD hS hQ rfl hlocks dX12_readsOp_123
        have hfn := (if_neg c_33).symm.trans hfn
        refine lv_aload_n hx hb dX12_readsOp_103 rfl (lv_at hl 1 rfl) ?_
        refine lv_iconst (v := 1) hx hb dX12_readsOp_104 zci_1 ?_
        refine lv_aload_n hx hb dX12_readsOp_105 rfl (lv_at hl 1 rfl) ?_
        refine va_get (D := (dC, dI)) (ci := 12) (v := .int o_16.2.1) (C := RX12) (T := TX12) (N := 67) hx hb hts zn_X12_readsOp_X12 hown hK hP 0 rfl rfl 7 (of_decide_eq_true rfl) (hts (.fieldLink RX12 32 "ShortEnoughModel" "begun" "I") zw_X12_readsOp_965) (fun _ h9 => h9) rfl dX12_readsOp_106 ?_
        obtain ⟨o_35, hqo_35, hfn⟩ := zb_s hfn
        refine zcVv (ci := 12) (rest := []) (pc' := 112) (ws' := [(h0, .inr (12, zO a0 (zI (zI (zI (zI b0 6 o_16.1) 7 o_16.2.1) 8 o_35.1) 9 o_35.2) c0)), zVi (a0 0) k1 1200 f1, zVi (a0 10) k2 71 f2]) hP hK hD hS hA ⟨hx, hb, hml, hown, hts⟩ (zf_X12_faults l dC dI h0 1 o_16.2.1 a0 (zI (zI (zI (zI b0 6 o_16.1) 7 o_16.2.1) 8 o_16.2.2.1) 9 o_16.2.2.2) c0 o_35 hqo_35 H.size) (cwV 2 hts gX12_readsOp_X12_faults rfl rfl rfl zhd_X12_faults ⟨Nat.le_of_ble_eq_true rfl, Nat.le_of_ble_eq_true rfl⟩) [0] rfl (of_decide_eq_true rfl) [] rfl rfl rfl rfl hl.1 rfl (Nat.le_of_ble_eq_true rfl) dX12_readsOp_109 ⟨Nat.le_of_ble_eq_true rfl, Nat.le_of_ble_eq_true rfl⟩ [some 0] (of_decide_eq_true rfl) (of_decide_eq_true rfl) rfl rfl rfl (fun H locs hP hD hS => ?_)
        refine lv_iload_n hx hb dX12_readsOp_112 rfl (lv_at hl 0 rfl) ?_
        refine lv_bipush (v := 7) hx hb dX12_readsOp_113 zcb_7 ?_
        refine lv_icmp_ne (tgt := 122) hx hb dX12_readsOp_115 (of_decide_eq_true rfl) (fun c_39 => ?_) (fun c_39 => ?_)
        · have hfn := (if_neg c_39).symm.trans hfn
          refine lv_iconst (v := 5) hx hb dX12_readsOp_122 zci_5 ?_
          have ho := Option.some.inj hfn
          subst ho
          exact zri hx hb hr hK hP hD hS hQ rfl hlocks dX12_readsOp_123
        have hfn := (if_pos c_39).symm.trans hfn
        refine lv_iconst (v := 4) hx hb dX12_readsOp_118 zci_4 ?_
        refine lv_goto (tgt := 123) hx hb dX12_readsOp_119 (of_decide_eq_true rfl) ?_
        have ho := Option.some.inj hfn
        subst ho
        exact zri hx hb hr hK hP hD hS hQ rfl hlocks dX12_readsOp_123
      refine lv_if_eq (tgt := 82) hx hb dX12_readsOp_72 (of_decide_eq_true rfl) (fun c_40 => ?_) (fun c_40 => ?_)
      · have hfn := (if_pos c_40).symm.trans hfn
        refine lv_iconst (v := (-1)) hx hb dX12_readsOp_82 zci_m1 ?_
        exact jp_24 (-1) H locs ls hfn hP hD hS (lv_sub hl [1] rfl)
      have hfn := (if_neg c_40).symm.trans hfn
      refine lv_aload_n hx hb dX12_readsOp_75 rfl (lv_at hl 1 rfl) ?_
      obtain ⟨o_41, hqo_41, hfn⟩ := zb_s hfn
      refine zcVi (ci := 12) (rest := []) (pc' := 79) (ws' := [(h0, .inr (12, zO a0 (zI (zI (zI (zI b0 6 o_16.1) 7 o_16.2.1) 8 o_16.2.2.1) 9 o_16.2.2.2) c0)), zVi (a0 0) k1 1200 f1, zVi (a0 10) k2 71 f2]) hP hK hD hS hA ⟨hx, hb, hml, hown, hts⟩ (zf_X12_own l dC dI h0 a0 (zI (zI (zI (zI b0 6 o_16.1) 7 o_16.2.1) 8 o_16.2.2.1) 9 o_16.2.2.2) c0 k2 f2 k1 f1 o_41 hqo_41 H.size) (cwV 0 hts gX12_readsOp_X12_own rfl rfl rfl zhd_X12_own ⟨Nat.le_of_ble_eq_true rfl, Nat.le_of_ble_eq_true rfl⟩) [0, 2, 1] rfl (of_decide_eq_true rfl) [1, 0] rfl rfl rfl rfl hl.1 rfl (Nat.le_of_ble_eq_true rfl) dX12_readsOp_76 ⟨Nat.le_of_ble_eq_true rfl, Nat.le_of_ble_eq_true rfl⟩ [some 0, some 2, some 1] (of_decide_eq_true rfl) (of_decide_eq_true rfl) rfl rfl rfl (fun H locs hP hD hS => ?_)
      refine lv_goto (tgt := 83) hx hb dX12_readsOp_79 (of_decide_eq_true rfl) ?_
      exact jp_24 o_41 H locs ls hfn hP hD hS (lv_sub hl [1] rfl)
    have hfn := (if_pos c_15).symm.trans hfn
    exact jp_10 () H locs ls hfn hP hD hS (lv_sub hl [0, 1] rfl)
  have hfn := (if_pos c_5).symm.trans hfn
  refine lv_iconst (v := 0) hx hb dX12_readsOp_7 zci_0 ?_
  have ho := Option.some.inj hfn
  subst ho
  exact zri hx hb hr hK hP hD hS hQ rfl hlocks dX12_readsOp_8
theorem zn_X12_readsLet_X12 : ∀ w ∈ wsX120, w ∈ wsX12_readsLet := fun _ h => List.mem_cons_of_mem _ (List.mem_append_right _ h)
theorem zw_X12_readsLet_968 : Cond.fieldLink RX12 96 "ShortEnoughModel" "whatV" "J" ∈ wsX12_readsLet := List.mem_of_getElem? (i := 1) (by decide +kernel)
theorem zw_X12_readsLet_969 : Cond.fieldLink RX12 62 "ShortEnoughModel" "numbers" "[I" ∈ wsX12_readsLet := List.mem_of_getElem? (i := 2) (by decide +kernel)
theorem zw_X12_readsLet_970 : Cond.fieldLink RX12 44 "ShortEnoughModel" "in" "I" ∈ wsX12_readsLet := List.mem_of_getElem? (i := 3) (by decide +kernel)
theorem zw_X12_readsLet_971 : Cond.fieldLink RX12 71 "ShortEnoughModel" "first" "[I" ∈ wsX12_readsLet := List.mem_of_getElem? (i := 4) (by decide +kernel)
theorem zw_X12_readsLet_972 : Cond.fieldLink RX12 77 "ShortEnoughModel" "firstV" "[J" ∈ wsX12_readsLet := List.mem_of_getElem? (i := 5) (by decide +kernel)
theorem zw_X12_readsLet_973 : Cond.fieldLink RX12 74 "ShortEnoughModel" "second" "[I" ∈ wsX12_readsLet := List.mem_of_getElem? (i := 6) (by decide +kernel)
theorem zw_X12_readsLet_974 : Cond.fieldLink RX12 81 "ShortEnoughModel" "secondV" "[J" ∈ wsX12_readsLet := List.mem_of_getElem? (i := 7) (by decide +kernel)
set_option maxHeartbeats 4000000 in
set_option maxRecDepth 100000 in
theorem zf_X12_readsLet (l : Launch) (dC : Nat → ClassId) (dI : Nat → Nat → Nat) (h0 : Nat) (a0 : Nat → Nat) (b0 : Nat → Int32) (c0 : Nat → Int64) (k1 : Nat) (f1 : Nat → Int32) (k2 : Nat) (f2 : Nat → Int32) (k3 : Nat) (f3 : Nat → Int32) (k4 : Nat) (f4 : Nat → Int32) (k5 : Nat) (f5 : Nat → Int32) (k6 : Nat) (f6 : Nat → Int32) (k7 : Nat) (f7 : Nat → Int32) (k8 : Nat) (f8 : Nat → Int32) (k9 : Nat) (f9 : Nat → Int32) (k10 : Nat) (f10 : Nat → Int32) (k11 : Nat) (f11 : Nat → Int32) (k12 : Nat) (f12 : Nat → Int32) (k13 : Nat) (f13 : Nat → Int64) (k14 : Nat) (f14 : Nat → Int64) (o : Int64 × Int32 × Int32 × Int32 × Int32 × (Nat → Int32) × (Nat → Int32) × (Nat → Int32) × (Nat → Int32) × (Nat → Int32) × (Nat → Int32) × (Nat → Int32) × (Nat → Int32) × (Nat → Int64) × (Nat → Int64)) (hfn : fn_X12_readsLet (b0 5) (b0 6) (b0 7) (b0 8) (b0 9) (b0 11) f1 f2 f3 f4 f5 f6 f7 f8 f9 f10 f11 f12 f13 f14 = some o) (sz : Nat) : zMv l yX12_readsLet wsX12_readsLet ({ frames := 6, cells := 0, slots := 0, locals := 126 }) (dC, dI) vwCl [.ref h0] [(h0, .inr (12, zO a0 b0 c0)), zVi (a0 0) k1 1200 f1, zVi (a0 10) k2 71 f2, zVi (a0 12) k3 2 f3, zVi (a0 13) k4 8 f4, zVi (a0 17) k5 2 f5, zVi (a0 18) k6 28 f6, zVi (a0 19) k7 28 f7, zVi (a0 20) k8 28 f8, zVi (a0 21) k9 28 f9, zVi (a0 25) k10 28 f10, zVi (a0 26) k11 28 f11, zVi (a0 27) k12 28 f12, zVl (a0 22) k13 28 f13, zVl (a0 23) k14 28 f14] [(k1, .int), (k2, .int), (k3, .int), (k4, .int), (k5, .int), (k6, .int), (k7, .int), (k8, .int), (k9, .int), (k10, .int), (k11, .int), (k12, .int), (k13, .long), (k14, .long)] (fun _ => True) [(h0, .inr (12, zO a0 (zI (zI (zI (zI b0 6 o.2.1) 7 o.2.2.1) 8 o.2.2.2.1) 9 o.2.2.2.2.1) (zJ c0 28 o.1))), zVi (a0 0) k1 1200 f1, zVi (a0 10) k2 71 f2, zVi (a0 12) k3 2 f3, zVi (a0 13) k4 8 f4, zVi (a0 17) k5 2 o.2.2.2.2.2.1, zVi (a0 18) k6 28 o.2.2.2.2.2.2.1, zVi (a0 19) k7 28 o.2.2.2.2.2.2.2.1, zVi (a0 20) k8 28 o.2.2.2.2.2.2.2.2.1, zVi (a0 21) k9 28 o.2.2.2.2.2.2.2.2.2.1, zVi (a0 25) k10 28 o.2.2.2.2.2.2.2.2.2.2.1, zVi (a0 26) k11 28 o.2.2.2.2.2.2.2.2.2.2.2.1, zVi (a0 27) k12 28 o.2.2.2.2.2.2.2.2.2.2.2.2.1, zVl (a0 22) k13 28 o.2.2.2.2.2.2.2.2.2.2.2.2.2.1, zVl (a0 23) k14 28 o.2.2.2.2.2.2.2.2.2.2.2.2.2.2] [(k1, .int), (k2, .int), (k3, .int), (k4, .int), (k5, .int), (k6, .int), (k7, .int), (k8, .int), (k9, .int), (k10, .int), (k11, .int), (k12, .int), (k13, .long), (k14, .long)] sz := by
  refine zgov (cc := cX12_readsLet) (maxL := 10) (ret := none) (C0 := RX12) (lv0 := [(0, .ref h0)]) zpl_X12 rfl rfl rfl (Nat.le_of_ble_eq_true rfl) ?_
  intro p e s m below meth c A ls Q hx hb hr hts hown hlocks hml hP hK hD hA hS hl hQ
  unfold fn_X12_readsLet at hfn
  refine lv_aload_n hx hb dX12_readsLet_0 rfl (lv_at hl 0 rfl) ?_
  obtain ⟨o_1, hqo_1, hfn⟩ := zb_s hfn
  refine zcVi (ci := 12) (rest := []) (pc' := 4) (ws' := [(h0, .inr (12, zO a0 (zI (zI (zI (zI b0 6 o_1.2.1) 7 o_1.2.2.1) 8 o_1.2.2.2.1) 9 o_1.2.2.2.2) c0)), zVi (a0 0) k1 1200 f1, zVi (a0 10) k2 71 f2, zVi (a0 12) k3 2 f3, zVi (a0 13) k4 8 f4, zVi (a0 17) k5 2 f5, zVi (a0 18) k6 28 f6, zVi (a0 19) k7 28 f7, zVi (a0 20) k8 28 f8, zVi (a0 21) k9 28 f9, zVi (a0 25) k10 28 f10, zVi (a0 26) k11 28 f11, zVi (a0 27) k12 28 f12, zVl (a0 22) k13 28 f13, zVl (a0 23) k14 28 f14]) hP hK hD hS hA ⟨hx, hb, hml, hown, hts⟩ (zf_X12_newName l dC dI h0 a0 b0 c0 k1 f1 k2 f2 k3 f3 k4 f4 k5 f5 k6 f6 o_1 hqo_1 s.heap.size) (cwV 0 hts gX12_readsLet_X12_newName rfl rfl rfl zhd_X12_newName ⟨Nat.le_of_ble_eq_true rfl, Nat.le_of_ble_eq_true rfl⟩) [0, 1, 2, 3, 4, 5, 6] rfl (of_decide_eq_true rfl) [0, 1, 2, 3, 4, 5] rfl rfl rfl rfl hl.1 rfl (Nat.le_of_ble_eq_true rfl) dX12_readsLet_1 ⟨Nat.le_of_ble_eq_true rfl, Nat.le_of_ble_eq_true rfl⟩ [some 0, some 1, some 2, some 3, some 4, some 5, some 6] (of_decide_eq_true rfl) (of_decide_eq_true rfl) rfl rfl rfl (fun H locs hP hD hS => ?_)
  refine lv_istore_n (lv' := [(1, .int o_1.1), (0, .ref h0)]) hx hb dX12_readsLet_4 rfl hl (of_decide_eq_true rfl) rfl (fun ls hl => ?_)
  refine lv_aload_n hx hb dX12_readsLet_5 rfl (lv_at hl 1 rfl) ?_
  refine lv_bipush (v := 61) hx hb dX12_readsLet_6 zcb_61 ?_
  obtain ⟨o_5, hqo_5, hfn⟩ := zb_s hfn
  refine zcVv (ci := 12) (rest := []) (pc' := 11) (ws' := [(h0, .inr (12, zO a0 (zI (zI (zI (zI b0 6 o_5.1) 7 o_1.2.2.1) 8 o_5.2.1) 9 o_5.2.2) c0)), zVi (a0 0) k1 1200 f1, zVi (a0 10) k2 71 f2, zVi (a0 12) k3 2 f3, zVi (a0 13) k4 8 f4, zVi (a0 17) k5 2 f5, zVi (a0 18) k6 28 f6, zVi (a0 19) k7 28 f7, zVi (a0 20) k8 28 f8, zVi (a0 21) k9 28 f9, zVi (a0 25) k10 28 f10, zVi (a0 26) k11 28 f11, zVi (a0 27) k12 28 f12, zVl (a0 22) k13 28 f13, zVl (a0 23) k14 28 f14]) hP hK hD hS hA ⟨hx, hb, hml, hown, hts⟩ (zf_X12_mark l dC dI h0 61 a0 (zI (zI (zI (zI b0 6 o_1.2.1) 7 o_1.2.2.1) 8 o_1.2.2.2.1) 9 o_1.2.2.2.2) c0 k1 f1 o_5 hqo_5 H.size) (cwV 1 hts gX12_readsLet_X12_mark rfl rfl rfl zhd_X12_mark ⟨Nat.le_of_ble_eq_true rfl, Nat.le_of_ble_eq_true rfl⟩) [0, 1] rfl (of_decide_eq_true rfl) [0] rfl rfl rfl rfl hl.1 rfl (Nat.le_of_ble_eq_true rfl) dX12_readsLet_8 ⟨Nat.le_of_ble_eq_true rfl, Nat.le_of_ble_eq_true rfl⟩ [some 0, some 1] (of_decide_eq_true rfl) (of_decide_eq_true rfl) rfl rfl rfl (fun H locs hP hD hS => ?_)
  refine lv_aload_n hx hb dX12_readsLet_11 rfl (lv_at hl 1 rfl) ?_
  obtain ⟨o_9, hqo_9, hfn⟩ := zb_s hfn
  refine zcVi (ci := 12) (rest := []) (pc' := 15) (ws' := [(h0, .inr (12, zO a0 (zI (zI (zI (zI b0 6 o_9.2.2.1) 7 o_9.2.2.2.1) 8 o_9.2.2.2.2.1) 9 o_9.2.2.2.2.2) (zJ c0 28 o_9.2.1))), zVi (a0 0) k1 1200 f1, zVi (a0 10) k2 71 f2, zVi (a0 12) k3 2 f3, zVi (a0 13) k4 8 f4, zVi (a0 17) k5 2 f5, zVi (a0 18) k6 28 f6, zVi (a0 19) k7 28 f7, zVi (a0 20) k8 28 f8, zVi (a0 21) k9 28 f9, zVi (a0 25) k10 28 f10, zVi (a0 26) k11 28 f11, zVi (a0 27) k12 28 f12, zVl (a0 22) k13 28 f13, zVl (a0 23) k14 28 f14]) hP hK hD hS hA ⟨hx, hb, hml, hown, hts⟩ (zf_X12_readsWhat l dC dI h0 a0 (zI (zI (zI (zI b0 6 o_5.1) 7 o_1.2.2.1) 8 o_5.2.1) 9 o_5.2.2) c0 k1 f1 k2 f2 k5 f5 k6 f6 o_9 hqo_9 H.size) (cwV 0 hts gX12_readsLet_X12_readsWhat rfl rfl rfl zhd_X12_readsWhat ⟨Nat.le_of_ble_eq_true rfl, Nat.le_of_ble_eq_true rfl⟩) [0, 1, 2, 5, 6] rfl (of_decide_eq_true rfl) [0, 1, 4, 5] rfl rfl rfl rfl hl.1 rfl (Nat.le_of_ble_eq_true rfl) dX12_readsLet_12 ⟨Nat.le_of_ble_eq_true rfl, Nat.le_of_ble_eq_true rfl⟩ [some 0, some 1, some 2, none, none, some 3, some 4] (of_decide_eq_true rfl) (of_decide_eq_true rfl) rfl rfl rfl (fun H locs hP hD hS => ?_)
  refine lv_istore_n (lv' := [(2, .int o_9.1), (1, .int o_1.1), (0, .ref h0)]) hx hb dX12_readsLet_15 rfl hl (of_decide_eq_true rfl) rfl (fun ls hl => ?_)
  refine lv_aload_n hx hb dX12_readsLet_16 rfl (lv_at hl 2 rfl) ?_
  refine va_get (D := (dC, dI)) (ci := 12) (v := .long o_9.2.1) (C := RX12) (T := TX12) (N := 67) hx hb hts zn_X12_readsLet_X12 hown hK hP 0 rfl rfl 28 (of_decide_eq_true rfl) (hts (.fieldLink RX12 96 "ShortEnoughModel" "whatV" "J") zw_X12_readsLet_968) (fun _ h9 => h9) rfl dX12_readsLet_17 ?_
  refine lv_lstore_n (lv' := [(3, .long o_9.2.1), (2, .int o_9.1), (1, .int o_1.1), (0, .ref h0)]) hx hb dX12_readsLet_20 rfl hl (of_decide_eq_true rfl) rfl (fun ls hl => ?_)
  refine lv_aload_n hx hb dX12_readsLet_21 rfl (lv_at hl 3 rfl) ?_
  obtain ⟨o_13, hqo_13, hfn⟩ := zb_s hfn
  refine zcVi (ci := 12) (rest := []) (pc' := 25) (ws' := [(h0, .inr (12, zO a0 (zI (zI (zI (zI b0 6 o_13.2.1) 7 o_13.2.2.1) 8 o_13.2.2.2.1) 9 o_13.2.2.2.2) (zJ c0 28 o_9.2.1))), zVi (a0 0) k1 1200 f1, zVi (a0 10) k2 71 f2, zVi (a0 12) k3 2 f3, zVi (a0 13) k4 8 f4, zVi (a0 17) k5 2 f5, zVi (a0 18) k6 28 f6, zVi (a0 19) k7 28 f7, zVi (a0 20) k8 28 f8, zVi (a0 21) k9 28 f9, zVi (a0 25) k10 28 f10, zVi (a0 26) k11 28 f11, zVi (a0 27) k12 28 f12, zVl (a0 22) k13 28 f13, zVl (a0 23) k14 28 f14]) hP hK hD hS hA ⟨hx, hb, hml, hown, hts⟩ (zf_X12_readsOp l dC dI h0 a0 (zI (zI (zI (zI b0 6 o_9.2.2.1) 7 o_9.2.2.2.1) 8 o_9.2.2.2.2.1) 9 o_9.2.2.2.2.2) (zJ c0 28 o_9.2.1) k1 f1 k2 f2 o_13 hqo_13 H.size) (cwV 0 hts gX12_readsLet_X12_readsOp rfl rfl rfl zhd_X12_readsOp ⟨Nat.le_of_ble_eq_true rfl, Nat.le_of_ble_eq_true rfl⟩) [0, 1, 2] rfl (of_decide_eq_true rfl) [0, 1] rfl rfl rfl rfl hl.1 rfl (Nat.le_of_ble_eq_true rfl) dX12_readsLet_22 ⟨Nat.le_of_ble_eq_true rfl, Nat.le_of_ble_eq_true rfl⟩ [some 0, some 1, some 2] (of_decide_eq_true rfl) (of_decide_eq_true rfl) rfl rfl rfl (fun H locs hP hD hS => ?_)
  refine lv_istore (lv' := [(5, .int o_13.1), (3, .long o_9.2.1), (2, .int o_9.1), (1, .int o_1.1), (0, .ref h0)]) hx hb dX12_readsLet_25 hl (of_decide_eq_true rfl) rfl (fun ls hl => ?_)
  refine lv_aload_n hx hb dX12_readsLet_27 rfl (lv_at hl 4 rfl) ?_
  obtain ⟨o_17, hqo_17, hfn⟩ := zb_s hfn
  refine zcVi (ci := 12) (rest := []) (pc' := 31) (ws' := [(h0, .inr (12, zO a0 (zI (zI (zI (zI b0 6 o_17.2.2.1) 7 o_17.2.2.2.1) 8 o_17.2.2.2.2.1) 9 o_17.2.2.2.2.2) (zJ c0 28 o_17.2.1))), zVi (a0 0) k1 1200 f1, zVi (a0 10) k2 71 f2, zVi (a0 12) k3 2 f3, zVi (a0 13) k4 8 f4, zVi (a0 17) k5 2 f5, zVi (a0 18) k6 28 f6, zVi (a0 19) k7 28 f7, zVi (a0 20) k8 28 f8, zVi (a0 21) k9 28 f9, zVi (a0 25) k10 28 f10, zVi (a0 26) k11 28 f11, zVi (a0 27) k12 28 f12, zVl (a0 22) k13 28 f13, zVl (a0 23) k14 28 f14]) hP hK hD hS hA ⟨hx, hb, hml, hown, hts⟩ (zf_X12_readsWhat l dC dI h0 a0 (zI (zI (zI (zI b0 6 o_13.2.1) 7 o_13.2.2.1) 8 o_13.2.2.2.1) 9 o_13.2.2.2.2) (zJ c0 28 o_9.2.1) k1 f1 k2 f2 k5 f5 k6 f6 o_17 hqo_17 H.size) (cwV 0 hts gX12_readsLet_X12_readsWhat rfl rfl rfl zhd_X12_readsWhat ⟨Nat.le_of_ble_eq_true rfl, Nat.le_of_ble_eq_true rfl⟩) [0, 1, 2, 5, 6] rfl (of_decide_eq_true rfl) [0, 1, 4, 5] rfl rfl rfl rfl hl.1 rfl (Nat.le_of_ble_eq_true rfl) dX12_readsLet_28 ⟨Nat.le_of_ble_eq_true rfl, Nat.le_of_ble_eq_true rfl⟩ [some 0, some 1, some 2, none, none, some 3, some 4] (of_decide_eq_true rfl) (of_decide_eq_true rfl) rfl rfl rfl (fun H locs hP hD hS => ?_)
  refine lv_istore (lv' := [(6, .int o_17.1), (5, .int o_13.1), (3, .long o_9.2.1), (2, .int o_9.1), (1, .int o_1.1), (0, .ref h0)]) hx hb dX12_readsLet_31 hl (of_decide_eq_true rfl) rfl (fun ls hl => ?_)
  refine lv_aload_n hx hb dX12_readsLet_33 rfl (lv_at hl 5 rfl) ?_
  refine va_get (D := (dC, dI)) (ci := 12) (v := .long o_17.2.1) (C := RX12) (T := TX12) (N := 67) hx hb hts zn_X12_readsLet_X12 hown hK hP 0 rfl rfl 28 (of_decide_eq_true rfl) (hts (.fieldLink RX12 96 "ShortEnoughModel" "whatV" "J") zw_X12_readsLet_968) (fun _ h9 => h9) rfl dX12_readsLet_34 ?_
  refine lv_lstore (lv' := [(7, .long o_17.2.1), (6, .int o_17.1), (5, .int o_13.1), (3, .long o_9.2.1), (2, .int o_9.1), (1, .int o_1.1), (0, .ref h0)]) hx hb dX12_readsLet_37 hl (of_decide_eq_true rfl) rfl (fun ls hl => ?_)
  refine lv_aload_n hx hb dX12_readsLet_39 rfl (lv_at hl 6 rfl) ?_
  obtain ⟨o_21, hqo_21, hfn⟩ := zb_s hfn
  refine zcVb (ci := 12) (rest := []) (pc' := 43) (ws' := [(h0, .inr (12, zO a0 (zI (zI (zI (zI b0 6 o_17.2.2.1) 7 o_17.2.2.2.1) 8 o_17.2.2.2.2.1) 9 o_17.2.2.2.2.2) (zJ c0 28 o_17.2.1))), zVi (a0 0) k1 1200 f1, zVi (a0 10) k2 71 f2, zVi (a0 12) k3 2 f3, zVi (a0 13) k4 8 f4, zVi (a0 17) k5 2 f5, zVi (a0 18) k6 28 f6, zVi (a0 19) k7 28 f7, zVi (a0 20) k8 28 f8, zVi (a0 21) k9 28 f9, zVi (a0 25) k10 28 f10, zVi (a0 26) k11 28 f11, zVi (a0 27) k12 28 f12, zVl (a0 22) k13 28 f13, zVl (a0 23) k14 28 f14]) hP hK hD hS hA ⟨hx, hb, hml, hown, hts⟩ (zf_X12_goesWell l dC dI h0 a0 (zI (zI (zI (zI b0 6 o_17.2.2.1) 7 o_17.2.2.2.1) 8 o_17.2.2.2.2.1) 9 o_17.2.2.2.2.2) (zJ c0 28 o_17.2.1) o_21 hqo_21 H.size) (cwV 0 hts gX12_readsLet_X12_goesWell rfl rfl rfl zhd_X12_goesWell ⟨Nat.le_of_ble_eq_true rfl, Nat.le_of_ble_eq_true rfl⟩) [0] rfl (of_decide_eq_true rfl) [] rfl rfl rfl rfl hl.1 rfl (Nat.le_of_ble_eq_true rfl) dX12_readsLet_40 ⟨Nat.le_of_ble_eq_true rfl, Nat.le_of_ble_eq_true rfl⟩ [some 0] (of_decide_eq_true rfl) (of_decide_eq_true rfl) rfl rfl rfl (fun H locs hw_24n hP hD hS => ?_)
  refine lv_if_ne (tgt := 47) hx hb dX12_readsLet_43 (of_decide_eq_true rfl) (fun c_25 => ?_) (fun c_25 => ?_)
  · have hfn := (if_neg c_25).symm.trans hfn
    refine lv_aload_n hx hb dX12_readsLet_47 rfl (lv_at hl 6 rfl) ?_
    refine lv_iload_n hx hb dX12_readsLet_48 rfl (lv_at hl 5 rfl) ?_
    refine lv_iload hx hb dX12_readsLet_49 (lv_at hl 2 rfl) ?_
    obtain ⟨o_26, hqo_26, hfn⟩ := zb_s hfn
    refine zcVv (ci := 12) (rest := []) (pc' := 54) (ws' := [(h0, .inr (12, zO a0 (zI (zI (zI (zI b0 6 o_17.2.2.1) 7 o_17.2.2.2.1) 8 o_17.2.2.2.2.1) 9 o_17.2.2.2.2.2) (zJ c0 28 o_17.2.1))), zVi (a0 0) k1 1200 f1, zVi (a0 10) k2 71 f2, zVi (a0 12) k3 2 f3, zVi (a0 13) k4 8 f4, zVi (a0 17) k5 2 f5, zVi (a0 18) k6 28 o_26.1, zVi (a0 19) k7 28 o_26.2.1, zVi (a0 20) k8 28 o_26.2.2.1, zVi (a0 21) k9 28 o_26.2.2.2.1, zVi (a0 25) k10 28 o_26.2.2.2.2.1, zVi (a0 26) k11 28 o_26.2.2.2.2.2.1, zVi (a0 27) k12 28 o_26.2.2.2.2.2.2, zVl (a0 22) k13 28 f13, zVl (a0 23) k14 28 f14]) hP hK hD hS hA ⟨hx, hb, hml, hown, hts⟩ (zf_X12_newNumber l dC dI h0 o_1.1 o_13.1 a0 (zI (zI (zI (zI b0 6 o_17.2.2.1) 7 o_17.2.2.2.1) 8 o_17.2.2.2.2.1) 9 o_17.2.2.2.2.2) (zJ c0 28 o_17.2.1) k5 f5 k6 f6 k7 f7 k8 f8 k9 f9 k10 f10 k11 f11 k12 f12 o_26 hqo_26 H.size) (cwV 2 hts gX12_readsLet_X12_newNumber rfl rfl rfl zhd_X12_newNumber ⟨Nat.le_of_ble_eq_true rfl, Nat.le_of_ble_eq_true rfl⟩) [0, 5, 6, 7, 8, 9, 10, 11, 12] rfl (of_decide_eq_true rfl) [4, 5, 6, 7, 8, 9, 10, 11] rfl rfl rfl rfl hl.1 rfl (Nat.le_of_ble_eq_true rfl) dX12_readsLet_51 ⟨Nat.le_of_ble_eq_true rfl, Nat.le_of_ble_eq_true rfl⟩ [some 0, none, none, none, none, some 1, some 2, some 3, some 4, some 5, some 6, some 7, some 8] (of_decide_eq_true rfl) (of_decide_eq_true rfl) rfl rfl rfl (fun H locs hP hD hS => ?_)
    refine lv_aload_n hx hb dX12_readsLet_54 rfl (lv_at hl 6 rfl) ?_
    refine lv_aload_n hx hb dX12_readsLet_55 rfl (lv_at hl 6 rfl) ?_
    refine va_get (D := (dC, dI)) (ci := 12) (v := .ref (a0 17)) (C := RX12) (T := TX12) (N := 67) hx hb hts zn_X12_readsLet_X12 hown hK hP 0 rfl rfl 17 (of_decide_eq_true rfl) (hts (.fieldLink RX12 62 "ShortEnoughModel" "numbers" "[I") zw_X12_readsLet_969) (fun _ h9 => h9) rfl dX12_readsLet_56 ?_
    refine lv_aload_n hx hb dX12_readsLet_59 rfl (lv_at hl 6 rfl) ?_
    refine va_get (D := (dC, dI)) (ci := 12) (v := .int (b0 11)) (C := RX12) (T := TX12) (N := 67) hx hb hts zn_X12_readsLet_X12 hown hK hP 0 rfl rfl 11 (of_decide_eq_true rfl) (hts (.fieldLink RX12 44 "ShortEnoughModel" "in" "I") zw_X12_readsLet_970) (fun _ h9 => h9) rfl dX12_readsLet_60 ?_
    obtain ⟨h_30, hfn⟩ := zg_s hfn
    refine va_iald hx hb hK hP 5 4 rfl rfl h_30 dX12_readsLet_63 ?_
    obtain ⟨o_31, hqo_31, hfn⟩ := zb_s hfn
    refine zcVi (ci := 12) (rest := []) (pc' := 67) (ws' := [(h0, .inr (12, zO a0 (zI (zI (zI (zI b0 6 o_17.2.2.1) 7 o_17.2.2.2.1) 8 o_17.2.2.2.2.1) 9 o_17.2.2.2.2.2) (zJ c0 28 o_17.2.1))), zVi (a0 0) k1 1200 f1, zVi (a0 10) k2 71 f2, zVi (a0 12) k3 2 f3, zVi (a0 13) k4 8 f4, zVi (a0 17) k5 2 f5, zVi (a0 18) k6 28 o_26.1, zVi (a0 19) k7 28 o_26.2.1, zVi (a0 20) k8 28 o_26.2.2.1, zVi (a0 21) k9 28 o_26.2.2.2.1, zVi (a0 25) k10 28 o_26.2.2.2.2.1, zVi (a0 26) k11 28 o_26.2.2.2.2.2.1, zVi (a0 27) k12 28 o_26.2.2.2.2.2.2, zVl (a0 22) k13 28 f13, zVl (a0 23) k14 28 f14]) hP hK hD hS hA ⟨hx, hb, hml, hown, hts⟩ (zf_X12_n l dC dI h0 (f5 (b0 11).toNatClampNeg) a0 (zI (zI (zI (zI b0 6 o_17.2.2.1) 7 o_17.2.2.2.1) 8 o_17.2.2.2.2.1) 9 o_17.2.2.2.2.2) (zJ c0 28 o_17.2.1) o_31 hqo_31 H.size) (cwV 1 hts gX12_readsLet_X12_n rfl rfl rfl zhd_X12_n ⟨Nat.le_of_ble_eq_true rfl, Nat.le_of_ble_eq_true rfl⟩) [0] rfl (of_decide_eq_true rfl) [] rfl rfl rfl rfl hl.1 rfl (Nat.le_of_ble_eq_true rfl) dX12_readsLet_64 ⟨Nat.le_of_ble_eq_true rfl, Nat.le_of_ble_eq_true rfl⟩ [some 0] (of_decide_eq_true rfl) (of_decide_eq_true rfl) rfl rfl rfl (fun H locs hP hD hS => ?_)
    refine lv_istore (lv' := [(9, .int o_31), (7, .long o_17.2.1), (6, .int o_17.1), (5, .int o_13.1), (3, .long o_9.2.1), (2, .int o_9.1), (1, .int o_1.1), (0, .ref h0)]) hx hb dX12_readsLet_67 hl (of_decide_eq_true rfl) rfl (fun ls hl => ?_)
    refine lv_aload_n hx hb dX12_readsLet_69 rfl (lv_at hl 7 rfl) ?_
    refine va_get (D := (dC, dI)) (ci := 12) (v := .ref (a0 20)) (C := RX12) (T := TX12) (N := 67) hx hb hts zn_X12_readsLet_X12 hown hK hP 0 rfl rfl 20 (of_decide_eq_true rfl) (hts (.fieldLink RX12 71 "ShortEnoughModel" "first" "[I") zw_X12_readsLet_971) (fun _ h9 => h9) rfl dX12_readsLet_70 ?_
    refine lv_iload hx hb dX12_readsLet_73 (lv_at hl 0 rfl) ?_
    refine lv_iload_n hx hb dX12_readsLet_75 rfl (lv_at hl 5 rfl) ?_
    obtain ⟨h_35, hfn⟩ := zg_s hfn
    refine va_iast hx hb hK hP hD hS 8 7 rfl rfl h_35 dX12_readsLet_76 (fun H locs hP hD hS => ?_)
    have hP : va_P (dC, dI) vwCl [(h0, .inr (12, zO a0 (zI (zI (zI (zI b0 6 o_17.2.2.1) 7 o_17.2.2.2.1) 8 o_17.2.2.2.2.1) 9 o_17.2.2.2.2.2) (zJ c0 28 o_17.2.1))), zVi (a0 0) k1 1200 f1, zVi (a0 10) k2 71 f2, zVi (a0 12) k3 2 f3, zVi (a0 13) k4 8 f4, zVi (a0 17) k5 2 f5, zVi (a0 18) k6 28 o_26.1, zVi (a0 19) k7 28 o_26.2.1, zVi (a0 20) k8 28 (upd o_26.2.2.1 o_31.toNatClampNeg o_9.1), zVi (a0 21) k9 28 o_26.2.2.2.1, zVi (a0 25) k10 28 o_26.2.2.2.2.1, zVi (a0 26) k11 28 o_26.2.2.2.2.2.1, zVi (a0 27) k12 28 o_26.2.2.2.2.2.2, zVl (a0 22) k13 28 f13, zVl (a0 23) k14 28 f14] H := hP
    have hD := zDW hD hP rfl
    refine lv_aload_n hx hb dX12_readsLet_77 rfl (lv_at hl 7 rfl) ?_
    refine va_get (D := (dC, dI)) (ci := 12) (v := .ref (a0 22)) (C := RX12) (T := TX12) (N := 67) hx hb hts zn_X12_readsLet_X12 hown hK hP 0 rfl rfl 22 (of_decide_eq_true rfl) (hts (.fieldLink RX12 77 "ShortEnoughModel" "firstV" "[J") zw_X12_readsLet_972) (fun _ h9 => h9) rfl dX12_readsLet_78 ?_
    refine lv_iload hx hb dX12_readsLet_81 (lv_at hl 0 rfl) ?_
    refine lv_lload_n hx hb dX12_readsLet_83 rfl (lv_at hl 4 rfl) ?_
    refine va_last hx hb hK hP hD hS 13 12 rfl rfl h_35 dX12_readsLet_84 (fun H locs hP hD hS => ?_)
    have hP : va_P (dC, dI) vwCl [(h0, .inr (12, zO a0 (zI (zI (zI (zI b0 6 o_17.2.2.1) 7 o_17.2.2.2.1) 8 o_17.2.2.2.2.1) 9 o_17.2.2.2.2.2) (zJ c0 28 o_17.2.1))), zVi (a0 0) k1 1200 f1, zVi (a0 10) k2 71 f2, zVi (a0 12) k3 2 f3, zVi (a0 13) k4 8 f4, zVi (a0 17) k5 2 f5, zVi (a0 18) k6 28 o_26.1, zVi (a0 19) k7 28 o_26.2.1, zVi (a0 20) k8 28 (upd o_26.2.2.1 o_31.toNatClampNeg o_9.1), zVi (a0 21) k9 28 o_26.2.2.2.1, zVi (a0 25) k10 28 o_26.2.2.2.2.1, zVi (a0 26) k11 28 o_26.2.2.2.2.2.1, zVi (a0 27) k12 28 o_26.2.2.2.2.2.2, zVl (a0 22) k13 28 (vp_updL f13 o_31.toNatClampNeg o_9.2.1), zVl (a0 23) k14 28 f14] H := hP
    have hD := zDW hD hP rfl
    refine lv_aload_n hx hb dX12_readsLet_85 rfl (lv_at hl 7 rfl) ?_
    refine va_get (D := (dC, dI)) (ci := 12) (v := .ref (a0 21)) (C := RX12) (T := TX12) (N := 67) hx hb hts zn_X12_readsLet_X12 hown hK hP 0 rfl rfl 21 (of_decide_eq_true rfl) (hts (.fieldLink RX12 74 "ShortEnoughModel" "second" "[I") zw_X12_readsLet_973) (fun _ h9 => h9) rfl dX12_readsLet_86 ?_
    refine lv_iload hx hb dX12_readsLet_89 (lv_at hl 0 rfl) ?_
    refine lv_iload hx hb dX12_readsLet_91 (lv_at hl 2 rfl) ?_
    refine va_iast hx hb hK hP hD hS 9 8 rfl rfl h_35 dX12_readsLet_93 (fun H locs hP hD hS => ?_)
    have hP : va_P (dC, dI) vwCl [(h0, .inr (12, zO a0 (zI (zI (zI (zI b0 6 o_17.2.2.1) 7 o_17.2.2.2.1) 8 o_17.2.2.2.2.1) 9 o_17.2.2.2.2.2) (zJ c0 28 o_17.2.1))), zVi (a0 0) k1 1200 f1, zVi (a0 10) k2 71 f2, zVi (a0 12) k3 2 f3, zVi (a0 13) k4 8 f4, zVi (a0 17) k5 2 f5, zVi (a0 18) k6 28 o_26.1, zVi (a0 19) k7 28 o_26.2.1, zVi (a0 20) k8 28 (upd o_26.2.2.1 o_31.toNatClampNeg o_9.1), zVi (a0 21) k9 28 (upd o_26.2.2.2.1 o_31.toNatClampNeg o_17.1), zVi (a0 25) k10 28 o_26.2.2.2.2.1, zVi (a0 26) k11 28 o_26.2.2.2.2.2.1, zVi (a0 27) k12 28 o_26.2.2.2.2.2.2, zVl (a0 22) k13 28 (vp_updL f13 o_31.toNatClampNeg o_9.2.1), zVl (a0 23) k14 28 f14] H := hP
    have hD := zDW hD hP rfl
    refine lv_aload_n hx hb dX12_readsLet_94 rfl (lv_at hl 7 rfl) ?_
    refine va_get (D := (dC, dI)) (ci := 12) (v := .ref (a0 23)) (C := RX12) (T := TX12) (N := 67) hx hb hts zn_X12_readsLet_X12 hown hK hP 0 rfl rfl 23 (of_decide_eq_true rfl) (hts (.fieldLink RX12 81 "ShortEnoughModel" "secondV" "[J") zw_X12_readsLet_974) (fun _ h9 => h9) rfl dX12_readsLet_95 ?_
    refine lv_iload hx hb dX12_readsLet_98 (lv_at hl 0 rfl) ?_
    refine lv_lload hx hb dX12_readsLet_100 (lv_at hl 1 rfl) ?_
    refine va_last hx hb hK hP hD hS 14 13 rfl rfl h_35 dX12_readsLet_102 (fun H locs hP hD hS => ?_)
    have hP : va_P (dC, dI) vwCl [(h0, .inr (12, zO a0 (zI (zI (zI (zI b0 6 o_17.2.2.1) 7 o_17.2.2.2.1) 8 o_17.2.2.2.2.1) 9 o_17.2.2.2.2.2) (zJ c0 28 o_17.2.1))), zVi (a0 0) k1 1200 f1, zVi (a0 10) k2 71 f2, zVi (a0 12) k3 2 f3, zVi (a0 13) k4 8 f4, zVi (a0 17) k5 2 f5, zVi (a0 18) k6 28 o_26.1, zVi (a0 19) k7 28 o_26.2.1, zVi (a0 20) k8 28 (upd o_26.2.2.1 o_31.toNatClampNeg o_9.1), zVi (a0 21) k9 28 (upd o_26.2.2.2.1 o_31.toNatClampNeg o_17.1), zVi (a0 25) k10 28 o_26.2.2.2.2.1, zVi (a0 26) k11 28 o_26.2.2.2.2.2.1, zVi (a0 27) k12 28 o_26.2.2.2.2.2.2, zVl (a0 22) k13 28 (vp_updL f13 o_31.toNatClampNeg o_9.2.1), zVl (a0 23) k14 28 (vp_updL f14 o_31.toNatClampNeg o_17.2.1)] H := hP
    have hD := zDW hD hP rfl
    refine lv_aload_n hx hb dX12_readsLet_103 rfl (lv_at hl 7 rfl) ?_
    refine va_get (D := (dC, dI)) (ci := 12) (v := .ref (a0 17)) (C := RX12) (T := TX12) (N := 67) hx hb hts zn_X12_readsLet_X12 hown hK hP 0 rfl rfl 17 (of_decide_eq_true rfl) (hts (.fieldLink RX12 62 "ShortEnoughModel" "numbers" "[I") zw_X12_readsLet_969) (fun _ h9 => h9) rfl dX12_readsLet_104 ?_
    refine lv_aload_n hx hb dX12_readsLet_107 rfl (lv_at hl 7 rfl) ?_
    refine va_get (D := (dC, dI)) (ci := 12) (v := .int (b0 11)) (C := RX12) (T := TX12) (N := 67) hx hb hts zn_X12_readsLet_X12 hown hK hP 0 rfl rfl 11 (of_decide_eq_true rfl) (hts (.fieldLink RX12 44 "ShortEnoughModel" "in" "I") zw_X12_readsLet_970) (fun _ h9 => h9) rfl dX12_readsLet_108 ?_
    refine lv_dup2_11 hx hb dX12_readsLet_111 rfl rfl ?_
    refine va_iald hx hb hK hP 5 4 rfl rfl h_30 dX12_readsLet_112 ?_
    refine lv_iconst (v := 1) hx hb dX12_readsLet_113 zci_1 ?_
    refine lv_iadd hx hb dX12_readsLet_114 ?_
    refine va_iast hx hb hK hP hD hS 5 4 rfl rfl h_30 dX12_readsLet_115 (fun H locs hP hD hS => ?_)
    have hP : va_P (dC, dI) vwCl [(h0, .inr (12, zO a0 (zI (zI (zI (zI b0 6 o_17.2.2.1) 7 o_17.2.2.2.1) 8 o_17.2.2.2.2.1) 9 o_17.2.2.2.2.2) (zJ c0 28 o_17.2.1))), zVi (a0 0) k1 1200 f1, zVi (a0 10) k2 71 f2, zVi (a0 12) k3 2 f3, zVi (a0 13) k4 8 f4, zVi (a0 17) k5 2 (upd f5 (b0 11).toNatClampNeg ((f5 (b0 11).toNatClampNeg) + 1)), zVi (a0 18) k6 28 o_26.1, zVi (a0 19) k7 28 o_26.2.1, zVi (a0 20) k8 28 (upd o_26.2.2.1 o_31.toNatClampNeg o_9.1), zVi (a0 21) k9 28 (upd o_26.2.2.2.1 o_31.toNatClampNeg o_17.1), zVi (a0 25) k10 28 o_26.2.2.2.2.1, zVi (a0 26) k11 28 o_26.2.2.2.2.2.1, zVi (a0 27) k12 28 o_26.2.2.2.2.2.2, zVl (a0 22) k13 28 (vp_updL f13 o_31.toNatClampNeg o_9.2.1), zVl (a0 23) k14 28 (vp_updL f14 o_31.toNatClampNeg o_17.2.1)] H := hP
    have hD := zDW hD hP rfl
    have ho := Option.some.inj hfn
    subst ho
    exact zrv hx hb hr hK hP hD hS hQ trivial hlocks dX12_readsLet_116
  have hfn := (if_pos c_25).symm.trans hfn
  have ho := Option.some.inj hfn
  subst ho
  exact zrv hx hb hr hK hP hD hS hQ trivial hlocks dX12_readsLet_46
theorem zn_X12_readsFixed_X12 : ∀ w ∈ wsX120, w ∈ wsX12_readsFixed := fun _ h => List.mem_cons_of_mem _ (List.mem_append_right _ h)
theorem zw_X12_readsFixed_976 : Cond.fieldLink RX12 32 "ShortEnoughModel" "begun" "I" ∈ wsX12_readsFixed := List.mem_of_getElem? (i := 1) (by decide +kernel)
theorem zw_X12_readsFixed_977 : Cond.fieldLink RX12 87 "ShortEnoughModel" "fixedAs" "[I" ∈ wsX12_readsFixed := List.mem_of_getElem? (i := 2) (by decide +kernel)
set_option maxHeartbeats 4000000 in
set_option maxRecDepth 100000 in
theorem zf_X12_readsFixed (l : Launch) (dC : Nat → ClassId) (dI : Nat → Nat → Nat) (h0 : Nat) (a0 : Nat → Nat) (b0 : Nat → Int32) (c0 : Nat → Int64) (k1 : Nat) (f1 : Nat → Int32) (k2 : Nat) (f2 : Nat → Int32) (k3 : Nat) (f3 : Nat → Int32) (k4 : Nat) (f4 : Nat → Int32) (k5 : Nat) (f5 : Nat → Int32) (k6 : Nat) (f6 : Nat → Int32) (k7 : Nat) (f7 : Nat → Int32) (o : Int32 × Int32 × Int32 × Int32 × (Nat → Int32)) (hfn : fn_X12_readsFixed (b0 5) (b0 6) (b0 7) (b0 8) (b0 9) (b0 11) f1 f2 f3 f4 f5 f6 f7 = some o) (sz : Nat) : zMv l yX12_readsFixed wsX12_readsFixed ({ frames := 5, cells := 0, slots := 0, locals := 106 }) (dC, dI) vwCl [.ref h0] [(h0, .inr (12, zO a0 b0 c0)), zVi (a0 0) k1 1200 f1, zVi (a0 10) k2 71 f2, zVi (a0 17) k3 2 f3, zVi (a0 18) k4 28 f4, zVi (a0 12) k5 2 f5, zVi (a0 13) k6 8 f6, zVi (a0 25) k7 28 f7] [(k1, .int), (k2, .int), (k3, .int), (k4, .int), (k5, .int), (k6, .int), (k7, .int)] (fun _ => True) [(h0, .inr (12, zO a0 (zI (zI (zI (zI b0 6 o.1) 7 o.2.1) 8 o.2.2.1) 9 o.2.2.2.1) c0)), zVi (a0 0) k1 1200 f1, zVi (a0 10) k2 71 f2, zVi (a0 17) k3 2 f3, zVi (a0 18) k4 28 f4, zVi (a0 12) k5 2 f5, zVi (a0 13) k6 8 f6, zVi (a0 25) k7 28 o.2.2.2.2] [(k1, .int), (k2, .int), (k3, .int), (k4, .int), (k5, .int), (k6, .int), (k7, .int)] sz := by
  refine zgov (cc := cX12_readsFixed) (maxL := 4) (ret := none) (C0 := RX12) (lv0 := [(0, .ref h0)]) zpl_X12 rfl rfl rfl (Nat.le_of_ble_eq_true rfl) ?_
  intro p e s m below meth c A ls Q hx hb hr hts hown hlocks hml hP hK hD hA hS hl hQ
  unfold fn_X12_readsFixed at hfn
  refine lv_aload_n hx hb dX12_readsFixed_0 rfl (lv_at hl 0 rfl) ?_
  obtain ⟨o_1, hqo_1, hfn⟩ := zb_s hfn
  refine zcVi (ci := 12) (rest := []) (pc' := 4) (ws' := [(h0, .inr (12, zO a0 (zI (zI (zI (zI b0 6 o_1.2.1) 7 o_1.2.2.1) 8 o_1.2.2.2.1) 9 o_1.2.2.2.2) c0)), zVi (a0 0) k1 1200 f1, zVi (a0 10) k2 71 f2, zVi (a0 17) k3 2 f3, zVi (a0 18) k4 28 f4, zVi (a0 12) k5 2 f5, zVi (a0 13) k6 8 f6, zVi (a0 25) k7 28 f7]) hP hK hD hS hA ⟨hx, hb, hml, hown, hts⟩ (zf_X12_toldNumber l dC dI h0 a0 b0 c0 k1 f1 k2 f2 k3 f3 k4 f4 o_1 hqo_1 s.heap.size) (cwV 0 hts gX12_readsFixed_X12_toldNumber rfl rfl rfl zhd_X12_toldNumber ⟨Nat.le_of_ble_eq_true rfl, Nat.le_of_ble_eq_true rfl⟩) [0, 1, 2, 3, 4] rfl (of_decide_eq_true rfl) [0, 1, 2, 3] rfl rfl rfl rfl hl.1 rfl (Nat.le_of_ble_eq_true rfl) dX12_readsFixed_1 ⟨Nat.le_of_ble_eq_true rfl, Nat.le_of_ble_eq_true rfl⟩ [some 0, some 1, some 2, some 3, some 4] (of_decide_eq_true rfl) (of_decide_eq_true rfl) rfl rfl rfl (fun H locs hP hD hS => ?_)
  refine lv_istore_n (lv' := [(1, .int o_1.1), (0, .ref h0)]) hx hb dX12_readsFixed_4 rfl hl (of_decide_eq_true rfl) rfl (fun ls hl => ?_)
  refine lv_aload_n hx hb dX12_readsFixed_5 rfl (lv_at hl 1 rfl) ?_
  obtain ⟨o_5, hqo_5, hfn⟩ := zb_s hfn
  refine zcVi (ci := 12) (rest := []) (pc' := 9) (ws' := [(h0, .inr (12, zO a0 (zI (zI (zI (zI b0 6 o_5.2.1) 7 o_5.2.2.1) 8 o_5.2.2.2.1) 9 o_5.2.2.2.2) c0)), zVi (a0 0) k1 1200 f1, zVi (a0 10) k2 71 f2, zVi (a0 17) k3 2 f3, zVi (a0 18) k4 28 f4, zVi (a0 12) k5 2 f5, zVi (a0 13) k6 8 f6, zVi (a0 25) k7 28 f7]) hP hK hD hS hA ⟨hx, hb, hml, hown, hts⟩ (zf_X12_name l dC dI h0 a0 (zI (zI (zI (zI b0 6 o_1.2.1) 7 o_1.2.2.1) 8 o_1.2.2.2.1) 9 o_1.2.2.2.2) c0 k1 f1 k2 f2 o_5 hqo_5 H.size) (cwV 0 hts gX12_readsFixed_X12_name rfl rfl rfl zhd_X12_name ⟨Nat.le_of_ble_eq_true rfl, Nat.le_of_ble_eq_true rfl⟩) [0, 1, 2] rfl (of_decide_eq_true rfl) [0, 1] rfl rfl rfl rfl hl.1 rfl (Nat.le_of_ble_eq_true rfl) dX12_readsFixed_6 ⟨Nat.le_of_ble_eq_true rfl, Nat.le_of_ble_eq_true rfl⟩ [some 0, some 1, some 2] (of_decide_eq_true rfl) (of_decide_eq_true rfl) rfl rfl rfl (fun H locs hP hD hS => ?_)
  refine lv_istore_n (lv' := [(2, .int o_5.1), (1, .int o_1.1), (0, .ref h0)]) hx hb dX12_readsFixed_9 rfl hl (of_decide_eq_true rfl) rfl (fun ls hl => ?_)
  refine lv_aload_n hx hb dX12_readsFixed_10 rfl (lv_at hl 2 rfl) ?_
  obtain ⟨o_9, hqo_9, hfn⟩ := zb_s hfn
  refine zcVb (ci := 12) (rest := []) (pc' := 14) (ws' := [(h0, .inr (12, zO a0 (zI (zI (zI (zI b0 6 o_5.2.1) 7 o_5.2.2.1) 8 o_5.2.2.2.1) 9 o_5.2.2.2.2) c0)), zVi (a0 0) k1 1200 f1, zVi (a0 10) k2 71 f2, zVi (a0 17) k3 2 f3, zVi (a0 18) k4 28 f4, zVi (a0 12) k5 2 f5, zVi (a0 13) k6 8 f6, zVi (a0 25) k7 28 f7]) hP hK hD hS hA ⟨hx, hb, hml, hown, hts⟩ (zf_X12_goesWell l dC dI h0 a0 (zI (zI (zI (zI b0 6 o_5.2.1) 7 o_5.2.2.1) 8 o_5.2.2.2.1) 9 o_5.2.2.2.2) c0 o_9 hqo_9 H.size) (cwV 0 hts gX12_readsFixed_X12_goesWell rfl rfl rfl zhd_X12_goesWell ⟨Nat.le_of_ble_eq_true rfl, Nat.le_of_ble_eq_true rfl⟩) [0] rfl (of_decide_eq_true rfl) [] rfl rfl rfl rfl hl.1 rfl (Nat.le_of_ble_eq_true rfl) dX12_readsFixed_11 ⟨Nat.le_of_ble_eq_true rfl, Nat.le_of_ble_eq_true rfl⟩ [some 0] (of_decide_eq_true rfl) (of_decide_eq_true rfl) rfl rfl rfl (fun H locs hw_12n hP hD hS => ?_)
  obtain ⟨j_13, ej_13, hfn⟩ := zj_g hfn
  have jp_13 : ∀ (s_13 : Int32) (H : Heap) (locs : List Loc) (ls : Array Slot), j_13 s_13 = some o → va_P (dC, dI) vwCl [(h0, .inr (12, zO a0 (zI (zI (zI (zI b0 6 o_5.2.1) 7 o_5.2.2.1) 8 o_5.2.2.2.1) 9 o_5.2.2.2.2) c0)), zVi (a0 0) k1 1200 f1, zVi (a0 10) k2 71 f2, zVi (a0 17) k3 2 f3, zVi (a0 18) k4 28 f4, zVi (a0 12) k5 2 f5, zVi (a0 13) k6 8 f6, zVi (a0 25) k7 28 f7] H → va_D A [(h0, .inr (12, zO a0 (zI (zI (zI (zI b0 6 o_5.2.1) 7 o_5.2.2.1) 8 o_5.2.2.2.1) 9 o_5.2.2.2.2) c0)), zVi (a0 0) k1 1200 f1, zVi (a0 10) k2 71 f2, zVi (a0 17) k3 2 f3, zVi (a0 18) k4 28 f4, zVi (a0 12) k5 2 f5, zVi (a0 13) k6 8 f6, zVi (a0 25) k7 28 f7] → va_S A s.heap H locs → lv_has ls 4 [(1, .int o_1.1), (0, .ref h0)] → W p l e (headSpec wsX12_readsFixed ({ frames := 5, cells := 0, slots := 0, locals := 106 })).room s m ([.ref h0] : List Value).toArray below meth c H locs 0 0 Q (F0 m 26 ls [.int s_13]) := by
    intro s_13 H locs ls hfn hP hD hS hl
    have hfn := zj_s ej_13 hfn
    refine lv_istore_n (lv' := [(3, .int s_13), (1, .int o_1.1), (0, .ref h0)]) hx hb dX12_readsFixed_26 rfl hl (of_decide_eq_true rfl) rfl (fun ls hl => ?_)
    refine lv_aload_n hx hb dX12_readsFixed_27 rfl (lv_at hl 2 rfl) ?_
    obtain ⟨o_14, hqo_14, hfn⟩ := zb_s hfn
    refine zcVb (ci := 12) (rest := []) (pc' := 31) (ws' := [(h0, .inr (12, zO a0 (zI (zI (zI (zI b0 6 o_5.2.1) 7 o_5.2.2.1) 8 o_5.2.2.2.1) 9 o_5.2.2.2.2) c0)), zVi (a0 0) k1 1200 f1, zVi (a0 10) k2 71 f2, zVi (a0 17) k3 2 f3, zVi (a0 18) k4 28 f4, zVi (a0 12) k5 2 f5, zVi (a0 13) k6 8 f6, zVi (a0 25) k7 28 f7]) hP hK hD hS hA ⟨hx, hb, hml, hown, hts⟩ (zf_X12_goesWell l dC dI h0 a0 (zI (zI (zI (zI b0 6 o_5.2.1) 7 o_5.2.2.1) 8 o_5.2.2.2.1) 9 o_5.2.2.2.2) c0 o_14 hqo_14 H.size) (cwV 0 hts gX12_readsFixed_X12_goesWell rfl rfl rfl zhd_X12_goesWell ⟨Nat.le_of_ble_eq_true rfl, Nat.le_of_ble_eq_true rfl⟩) [0] rfl (of_decide_eq_true rfl) [] rfl rfl rfl rfl hl.1 rfl (Nat.le_of_ble_eq_true rfl) dX12_readsFixed_28 ⟨Nat.le_of_ble_eq_true rfl, Nat.le_of_ble_eq_true rfl⟩ [some 0] (of_decide_eq_true rfl) (of_decide_eq_true rfl) rfl rfl rfl (fun H locs hw_17n hP hD hS => ?_)
    obtain ⟨j_18, ej_18, hfn⟩ := zj_g hfn
    have jp_18 : ∀ (s_18 : Int32 × Int32) (H : Heap) (locs : List Loc) (ls : Array Slot), j_18 s_18 = some o → va_P (dC, dI) vwCl [(h0, .inr (12, zO a0 (zI (zI (zI (zI b0 6 o_5.2.1) 7 o_5.2.2.1) 8 s_18.1) 9 s_18.2) c0)), zVi (a0 0) k1 1200 f1, zVi (a0 10) k2 71 f2, zVi (a0 17) k3 2 f3, zVi (a0 18) k4 28 f4, zVi (a0 12) k5 2 f5, zVi (a0 13) k6 8 f6, zVi (a0 25) k7 28 f7] H → va_D A [(h0, .inr (12, zO a0 (zI (zI (zI (zI b0 6 o_5.2.1) 7 o_5.2.2.1) 8 s_18.1) 9 s_18.2) c0)), zVi (a0 0) k1 1200 f1, zVi (a0 10) k2 71 f2, zVi (a0 17) k3 2 f3, zVi (a0 18) k4 28 f4, zVi (a0 12) k5 2 f5, zVi (a0 13) k6 8 f6, zVi (a0 25) k7 28 f7] → va_S A s.heap H locs → lv_has ls 4 [(3, .int s_13), (1, .int o_1.1), (0, .ref h0)] → W p l e (headSpec wsX12_readsFixed ({ frames := 5, cells := 0, slots := 0, locals := 106 })).room s m ([.ref h0] : List Value).toArray below meth c H locs 0 0 Q (F0 m 48 ls []) := by
      intro s_18 H locs ls hfn hP hD hS hl
      have hfn := zj_s ej_18 hfn
      refine lv_aload_n hx hb dX12_readsFixed_48 rfl (lv_at hl 2 rfl) ?_
      obtain ⟨o_19, hqo_19, hfn⟩ := zb_s hfn
      refine zcVb (ci := 12) (rest := []) (pc' := 52) (ws' := [(h0, .inr (12, zO a0 (zI (zI (zI (zI b0 6 o_5.2.1) 7 o_5.2.2.1) 8 s_18.1) 9 s_18.2) c0)), zVi (a0 0) k1 1200 f1, zVi (a0 10) k2 71 f2, zVi (a0 17) k3 2 f3, zVi (a0 18) k4 28 f4, zVi (a0 12) k5 2 f5, zVi (a0 13) k6 8 f6, zVi (a0 25) k7 28 f7]) hP hK hD hS hA ⟨hx, hb, hml, hown, hts⟩ (zf_X12_goesWell l dC dI h0 a0 (zI (zI (zI (zI b0 6 o_5.2.1) 7 o_5.2.2.1) 8 s_18.1) 9 s_18.2) c0 o_19 hqo_19 H.size) (cwV 0 hts gX12_readsFixed_X12_goesWell rfl rfl rfl zhd_X12_goesWell ⟨Nat.le_of_ble_eq_true rfl, Nat.le_of_ble_eq_true rfl⟩) [0] rfl (of_decide_eq_true rfl) [] rfl rfl rfl rfl hl.1 rfl (Nat.le_of_ble_eq_true rfl) dX12_readsFixed_49 ⟨Nat.le_of_ble_eq_true rfl, Nat.le_of_ble_eq_true rfl⟩ [some 0] (of_decide_eq_true rfl) (of_decide_eq_true rfl) rfl rfl rfl (fun H locs hw_22n hP hD hS => ?_)
      refine lv_if_eq (tgt := 66) hx hb dX12_readsFixed_52 (of_decide_eq_true rfl) (fun c_23 => ?_) (fun c_23 => ?_)
      · have hfn := (if_pos c_23).symm.trans hfn
        have ho := Option.some.inj hfn
        subst ho
        exact zrv hx hb hr hK hP hD hS hQ trivial hlocks dX12_readsFixed_66
      have hfn := (if_neg c_23).symm.trans hfn
      refine lv_aload_n hx hb dX12_readsFixed_55 rfl (lv_at hl 2 rfl) ?_
      refine va_get (D := (dC, dI)) (ci := 12) (v := .ref (a0 25)) (C := RX12) (T := TX12) (N := 67) hx hb hts zn_X12_readsFixed_X12 hown hK hP 0 rfl rfl 25 (of_decide_eq_true rfl) (hts (.fieldLink RX12 87 "ShortEnoughModel" "fixedAs" "[I") zw_X12_readsFixed_977) (fun _ h9 => h9) rfl dX12_readsFixed_56 ?_
      refine lv_aload_n hx hb dX12_readsFixed_59 rfl (lv_at hl 2 rfl) ?_
      refine lv_iload_n hx hb dX12_readsFixed_60 rfl (lv_at hl 1 rfl) ?_
      obtain ⟨o_24, hqo_24, hfn⟩ := zb_s hfn
      refine zcVi (ci := 12) (rest := [.ref (a0 25)]) (pc' := 64) (ws' := [(h0, .inr (12, zO a0 (zI (zI (zI (zI b0 6 o_5.2.1) 7 o_5.2.2.1) 8 s_18.1) 9 s_18.2) c0)), zVi (a0 0) k1 1200 f1, zVi (a0 10) k2 71 f2, zVi (a0 17) k3 2 f3, zVi (a0 18) k4 28 f4, zVi (a0 12) k5 2 f5, zVi (a0 13) k6 8 f6, zVi (a0 25) k7 28 f7]) hP hK hD hS hA ⟨hx, hb, hml, hown, hts⟩ (zf_X12_n l dC dI h0 o_1.1 a0 (zI (zI (zI (zI b0 6 o_5.2.1) 7 o_5.2.2.1) 8 s_18.1) 9 s_18.2) c0 o_24 hqo_24 H.size) (cwV 1 hts gX12_readsFixed_X12_n rfl rfl rfl zhd_X12_n ⟨Nat.le_of_ble_eq_true rfl, Nat.le_of_ble_eq_true rfl⟩) [0] rfl (of_decide_eq_true rfl) [] rfl rfl rfl rfl hl.1 rfl (Nat.le_of_ble_eq_true rfl) dX12_readsFixed_61 ⟨Nat.le_of_ble_eq_true rfl, Nat.le_of_ble_eq_true rfl⟩ [some 0] (of_decide_eq_true rfl) (of_decide_eq_true rfl) rfl rfl rfl (fun H locs hP hD hS => ?_)
      refine lv_iload_n hx hb dX12_readsFixed_64 rfl (lv_at hl 0 rfl) ?_
      obtain ⟨h_28, hfn⟩ := zg_s hfn
      refine va_iast hx hb hK hP hD hS 7 6 rfl rfl h_28 dX12_readsFixed_65 (fun H locs hP hD hS => ?_)
      have hP : va_P (dC, dI) vwCl [(h0, .inr (12, zO a0 (zI (zI (zI (zI b0 6 o_5.2.1) 7 o_5.2.2.1) 8 s_18.1) 9 s_18.2) c0)), zVi (a0 0) k1 1200 f1, zVi (a0 10) k2 71 f2, zVi (a0 17) k3 2 f3, zVi (a0 18) k4 28 f4, zVi (a0 12) k5 2 f5, zVi (a0 13) k6 8 f6, zVi (a0 25) k7 28 (upd f7 o_24.toNatClampNeg s_13)] H := hP
      have hD := zDW hD hP rfl
      have ho := Option.some.inj hfn
      subst ho
      exact zrv hx hb hr hK hP hD hS hQ trivial hlocks dX12_readsFixed_66
    refine lv_if_eq (tgt := 48) hx hb dX12_readsFixed_31 (of_decide_eq_true rfl) (fun c_29 => ?_) (fun c_29 => ?_)
    · have hfn := (if_pos c_29).symm.trans hfn
      exact jp_18 (o_5.2.2.2.1, o_5.2.2.2.2) H locs ls hfn hP hD hS (lv_sub hl [0, 1, 2] rfl)
    have hfn := (if_neg c_29).symm.trans hfn
    refine lv_iload_n hx hb dX12_readsFixed_34 rfl (lv_at hl 0 rfl) ?_
    refine lv_iconst (v := (-1)) hx hb dX12_readsFixed_35 zci_m1 ?_
    refine lv_icmp_ne (tgt := 48) hx hb dX12_readsFixed_36 (of_decide_eq_true rfl) (fun c_30 => ?_) (fun c_30 => ?_)
    · have hfn := (if_neg c_30).symm.trans hfn
      exact jp_18 (o_5.2.2.2.1, o_5.2.2.2.2) H locs ls hfn hP hD hS (lv_sub hl [0, 1, 2] rfl)
    have hfn := (if_pos c_30).symm.trans hfn
    refine lv_aload_n hx hb dX12_readsFixed_39 rfl (lv_at hl 2 rfl) ?_
    refine lv_iconst (v := 3) hx hb dX12_readsFixed_40 zci_3 ?_
    refine lv_aload_n hx hb dX12_readsFixed_41 rfl (lv_at hl 2 rfl) ?_
    refine va_get (D := (dC, dI)) (ci := 12) (v := .int o_5.2.2.1) (C := RX12) (T := TX12) (N := 67) hx hb hts zn_X12_readsFixed_X12 hown hK hP 0 rfl rfl 7 (of_decide_eq_true rfl) (hts (.fieldLink RX12 32 "ShortEnoughModel" "begun" "I") zw_X12_readsFixed_976) (fun _ h9 => h9) rfl dX12_readsFixed_42 ?_
    obtain ⟨o_31, hqo_31, hfn⟩ := zb_s hfn
    refine zcVv (ci := 12) (rest := []) (pc' := 48) (ws' := [(h0, .inr (12, zO a0 (zI (zI (zI (zI b0 6 o_5.2.1) 7 o_5.2.2.1) 8 o_31.1) 9 o_31.2) c0)), zVi (a0 0) k1 1200 f1, zVi (a0 10) k2 71 f2, zVi (a0 17) k3 2 f3, zVi (a0 18) k4 28 f4, zVi (a0 12) k5 2 f5, zVi (a0 13) k6 8 f6, zVi (a0 25) k7 28 f7]) hP hK hD hS hA ⟨hx, hb, hml, hown, hts⟩ (zf_X12_faults l dC dI h0 3 o_5.2.2.1 a0 (zI (zI (zI (zI b0 6 o_5.2.1) 7 o_5.2.2.1) 8 o_5.2.2.2.1) 9 o_5.2.2.2.2) c0 o_31 hqo_31 H.size) (cwV 2 hts gX12_readsFixed_X12_faults rfl rfl rfl zhd_X12_faults ⟨Nat.le_of_ble_eq_true rfl, Nat.le_of_ble_eq_true rfl⟩) [0] rfl (of_decide_eq_true rfl) [] rfl rfl rfl rfl hl.1 rfl (Nat.le_of_ble_eq_true rfl) dX12_readsFixed_45 ⟨Nat.le_of_ble_eq_true rfl, Nat.le_of_ble_eq_true rfl⟩ [some 0] (of_decide_eq_true rfl) (of_decide_eq_true rfl) rfl rfl rfl (fun H locs hP hD hS => ?_)
    exact jp_18 (o_31.1, o_31.2) H locs ls hfn hP hD hS (lv_sub hl [0, 1, 2] rfl)
  refine lv_if_eq (tgt := 25) hx hb dX12_readsFixed_14 (of_decide_eq_true rfl) (fun c_35 => ?_) (fun c_35 => ?_)
  · have hfn := (if_pos c_35).symm.trans hfn
    refine lv_iconst (v := 0) hx hb dX12_readsFixed_25 zci_0 ?_
    exact jp_13 0 H locs ls hfn hP hD hS (lv_sub hl [1, 2] rfl)
  have hfn := (if_neg c_35).symm.trans hfn
  refine lv_aload_n hx hb dX12_readsFixed_17 rfl (lv_at hl 2 rfl) ?_
  refine lv_iload_n hx hb dX12_readsFixed_18 rfl (lv_at hl 0 rfl) ?_
  obtain ⟨o_36, hqo_36, hfn⟩ := zb_s hfn
  refine zcVi (ci := 12) (rest := []) (pc' := 22) (ws' := [(h0, .inr (12, zO a0 (zI (zI (zI (zI b0 6 o_5.2.1) 7 o_5.2.2.1) 8 o_5.2.2.2.1) 9 o_5.2.2.2.2) c0)), zVi (a0 0) k1 1200 f1, zVi (a0 10) k2 71 f2, zVi (a0 17) k3 2 f3, zVi (a0 18) k4 28 f4, zVi (a0 12) k5 2 f5, zVi (a0 13) k6 8 f6, zVi (a0 25) k7 28 f7]) hP hK hD hS hA ⟨hx, hb, hml, hown, hts⟩ (zf_X12_formatNamed l dC dI h0 o_5.1 a0 (zI (zI (zI (zI b0 6 o_5.2.1) 7 o_5.2.2.1) 8 o_5.2.2.2.1) 9 o_5.2.2.2.2) c0 k5 f5 k6 f6 o_36 hqo_36 H.size) (cwV 1 hts gX12_readsFixed_X12_formatNamed rfl rfl rfl zhd_X12_formatNamed ⟨Nat.le_of_ble_eq_true rfl, Nat.le_of_ble_eq_true rfl⟩) [0, 5, 6] rfl (of_decide_eq_true rfl) [4, 5] rfl rfl rfl rfl hl.1 rfl (Nat.le_of_ble_eq_true rfl) dX12_readsFixed_19 ⟨Nat.le_of_ble_eq_true rfl, Nat.le_of_ble_eq_true rfl⟩ [some 0, none, none, none, none, some 1, some 2] (of_decide_eq_true rfl) (of_decide_eq_true rfl) rfl rfl rfl (fun H locs hP hD hS => ?_)
  refine lv_goto (tgt := 26) hx hb dX12_readsFixed_22 (of_decide_eq_true rfl) ?_
  exact jp_13 o_36 H locs ls hfn hP hD hS (lv_sub hl [1, 2] rfl)
theorem zn_X12_readsGroup_X12 : ∀ w ∈ wsX120, w ∈ wsX12_readsGroup := fun _ h => List.mem_cons_of_mem _ (List.mem_append_right _ h)
theorem zw_X12_readsGroup_979 : Cond.fieldLink RX12 32 "ShortEnoughModel" "begun" "I" ∈ wsX12_readsGroup := List.mem_of_getElem? (i := 1) (by decide +kernel)
theorem zw_X12_readsGroup_980 : Cond.fieldLink RX12 93 "ShortEnoughModel" "groupOf" "[I" ∈ wsX12_readsGroup := List.mem_of_getElem? (i := 2) (by decide +kernel)
theorem zw_X12_readsGroup_981 : Cond.fieldLink RX12 62 "ShortEnoughModel" "numbers" "[I" ∈ wsX12_readsGroup := List.mem_of_getElem? (i := 3) (by decide +kernel)
theorem zw_X12_readsGroup_982 : Cond.fieldLink RX12 44 "ShortEnoughModel" "in" "I" ∈ wsX12_readsGroup := List.mem_of_getElem? (i := 4) (by decide +kernel)
set_option maxHeartbeats 4000000 in
set_option maxRecDepth 100000 in
theorem zf_X12_readsGroup (l : Launch) (dC : Nat → ClassId) (dI : Nat → Nat → Nat) (h0 : Nat) (a0 : Nat → Nat) (b0 : Nat → Int32) (c0 : Nat → Int64) (k1 : Nat) (f1 : Nat → Int32) (k2 : Nat) (f2 : Nat → Int32) (k3 : Nat) (f3 : Nat → Int32) (k4 : Nat) (f4 : Nat → Int32) (k5 : Nat) (f5 : Nat → Int32) (o : Int32 × Int32 × Int32 × Int32 × (Nat → Int32)) (hfn : fn_X12_readsGroup (b0 5) (b0 6) (b0 7) (b0 8) (b0 9) (b0 11) f1 f2 f3 f4 f5 = some o) (sz : Nat) : zMv l yX12_readsGroup wsX12_readsGroup ({ frames := 5, cells := 0, slots := 0, locals := 106 }) (dC, dI) vwCl [.ref h0] [(h0, .inr (12, zO a0 b0 c0)), zVi (a0 0) k1 1200 f1, zVi (a0 10) k2 71 f2, zVi (a0 17) k3 2 f3, zVi (a0 18) k4 28 f4, zVi (a0 27) k5 28 f5] [(k1, .int), (k2, .int), (k3, .int), (k4, .int), (k5, .int)] (fun _ => True) [(h0, .inr (12, zO a0 (zI (zI (zI (zI b0 6 o.1) 7 o.2.1) 8 o.2.2.1) 9 o.2.2.2.1) c0)), zVi (a0 0) k1 1200 f1, zVi (a0 10) k2 71 f2, zVi (a0 17) k3 2 f3, zVi (a0 18) k4 28 f4, zVi (a0 27) k5 28 o.2.2.2.2] [(k1, .int), (k2, .int), (k3, .int), (k4, .int), (k5, .int)] sz := by
  refine zgov (cc := cX12_readsGroup) (maxL := 7) (ret := none) (C0 := RX12) (lv0 := [(0, .ref h0)]) zpl_X12 rfl rfl rfl (Nat.le_of_ble_eq_true rfl) ?_
  intro p e s m below meth c A ls Q hx hb hr hts hown hlocks hml hP hK hD hA hS hl hQ
  unfold fn_X12_readsGroup at hfn
  refine lv_aload_n hx hb dX12_readsGroup_0 rfl (lv_at hl 0 rfl) ?_
  obtain ⟨o_1, hqo_1, hfn⟩ := zb_s hfn
  refine zcVi (ci := 12) (rest := []) (pc' := 4) (ws' := [(h0, .inr (12, zO a0 (zI (zI (zI (zI b0 6 o_1.2.1) 7 o_1.2.2.1) 8 o_1.2.2.2.1) 9 o_1.2.2.2.2) c0)), zVi (a0 0) k1 1200 f1, zVi (a0 10) k2 71 f2, zVi (a0 17) k3 2 f3, zVi (a0 18) k4 28 f4, zVi (a0 27) k5 28 f5]) hP hK hD hS hA ⟨hx, hb, hml, hown, hts⟩ (zf_X12_toldNumber l dC dI h0 a0 b0 c0 k1 f1 k2 f2 k3 f3 k4 f4 o_1 hqo_1 s.heap.size) (cwV 0 hts gX12_readsGroup_X12_toldNumber rfl rfl rfl zhd_X12_toldNumber ⟨Nat.le_of_ble_eq_true rfl, Nat.le_of_ble_eq_true rfl⟩) [0, 1, 2, 3, 4] rfl (of_decide_eq_true rfl) [0, 1, 2, 3] rfl rfl rfl rfl hl.1 rfl (Nat.le_of_ble_eq_true rfl) dX12_readsGroup_1 ⟨Nat.le_of_ble_eq_true rfl, Nat.le_of_ble_eq_true rfl⟩ [some 0, some 1, some 2, some 3, some 4] (of_decide_eq_true rfl) (of_decide_eq_true rfl) rfl rfl rfl (fun H locs hP hD hS => ?_)
  refine lv_istore_n (lv' := [(1, .int o_1.1), (0, .ref h0)]) hx hb dX12_readsGroup_4 rfl hl (of_decide_eq_true rfl) rfl (fun ls hl => ?_)
  refine lv_aload_n hx hb dX12_readsGroup_5 rfl (lv_at hl 1 rfl) ?_
  obtain ⟨o_5, hqo_5, hfn⟩ := zb_s hfn
  refine zcVi (ci := 12) (rest := []) (pc' := 9) (ws' := [(h0, .inr (12, zO a0 (zI (zI (zI (zI b0 6 o_5.2.1) 7 o_5.2.2.1) 8 o_5.2.2.2.1) 9 o_5.2.2.2.2) c0)), zVi (a0 0) k1 1200 f1, zVi (a0 10) k2 71 f2, zVi (a0 17) k3 2 f3, zVi (a0 18) k4 28 f4, zVi (a0 27) k5 28 f5]) hP hK hD hS hA ⟨hx, hb, hml, hown, hts⟩ (zf_X12_toldNumber l dC dI h0 a0 (zI (zI (zI (zI b0 6 o_1.2.1) 7 o_1.2.2.1) 8 o_1.2.2.2.1) 9 o_1.2.2.2.2) c0 k1 f1 k2 f2 k3 f3 k4 f4 o_5 hqo_5 H.size) (cwV 0 hts gX12_readsGroup_X12_toldNumber rfl rfl rfl zhd_X12_toldNumber ⟨Nat.le_of_ble_eq_true rfl, Nat.le_of_ble_eq_true rfl⟩) [0, 1, 2, 3, 4] rfl (of_decide_eq_true rfl) [0, 1, 2, 3] rfl rfl rfl rfl hl.1 rfl (Nat.le_of_ble_eq_true rfl) dX12_readsGroup_6 ⟨Nat.le_of_ble_eq_true rfl, Nat.le_of_ble_eq_true rfl⟩ [some 0, some 1, some 2, some 3, some 4] (of_decide_eq_true rfl) (of_decide_eq_true rfl) rfl rfl rfl (fun H locs hP hD hS => ?_)
  refine lv_istore_n (lv' := [(2, .int o_5.1), (1, .int o_1.1), (0, .ref h0)]) hx hb dX12_readsGroup_9 rfl hl (of_decide_eq_true rfl) rfl (fun ls hl => ?_)
  refine lv_aload_n hx hb dX12_readsGroup_10 rfl (lv_at hl 2 rfl) ?_
  obtain ⟨o_9, hqo_9, hfn⟩ := zb_s hfn
  refine zcVb (ci := 12) (rest := []) (pc' := 14) (ws' := [(h0, .inr (12, zO a0 (zI (zI (zI (zI b0 6 o_5.2.1) 7 o_5.2.2.1) 8 o_5.2.2.2.1) 9 o_5.2.2.2.2) c0)), zVi (a0 0) k1 1200 f1, zVi (a0 10) k2 71 f2, zVi (a0 17) k3 2 f3, zVi (a0 18) k4 28 f4, zVi (a0 27) k5 28 f5]) hP hK hD hS hA ⟨hx, hb, hml, hown, hts⟩ (zf_X12_goesWell l dC dI h0 a0 (zI (zI (zI (zI b0 6 o_5.2.1) 7 o_5.2.2.1) 8 o_5.2.2.2.1) 9 o_5.2.2.2.2) c0 o_9 hqo_9 H.size) (cwV 0 hts gX12_readsGroup_X12_goesWell rfl rfl rfl zhd_X12_goesWell ⟨Nat.le_of_ble_eq_true rfl, Nat.le_of_ble_eq_true rfl⟩) [0] rfl (of_decide_eq_true rfl) [] rfl rfl rfl rfl hl.1 rfl (Nat.le_of_ble_eq_true rfl) dX12_readsGroup_11 ⟨Nat.le_of_ble_eq_true rfl, Nat.le_of_ble_eq_true rfl⟩ [some 0] (of_decide_eq_true rfl) (of_decide_eq_true rfl) rfl rfl rfl (fun H locs hw_12n hP hD hS => ?_)
  obtain ⟨j_13, ej_13, hfn⟩ := zj_g hfn
  have jp_13 : ∀ (s_13 : Int32 × Int32) (H : Heap) (locs : List Loc) (ls : Array Slot), j_13 s_13 = some o → va_P (dC, dI) vwCl [(h0, .inr (12, zO a0 (zI (zI (zI (zI b0 6 o_5.2.1) 7 o_5.2.2.1) 8 s_13.1) 9 s_13.2) c0)), zVi (a0 0) k1 1200 f1, zVi (a0 10) k2 71 f2, zVi (a0 17) k3 2 f3, zVi (a0 18) k4 28 f4, zVi (a0 27) k5 28 f5] H → va_D A [(h0, .inr (12, zO a0 (zI (zI (zI (zI b0 6 o_5.2.1) 7 o_5.2.2.1) 8 s_13.1) 9 s_13.2) c0)), zVi (a0 0) k1 1200 f1, zVi (a0 10) k2 71 f2, zVi (a0 17) k3 2 f3, zVi (a0 18) k4 28 f4, zVi (a0 27) k5 28 f5] → va_S A s.heap H locs → lv_has ls 7 [(2, .int o_5.1), (1, .int o_1.1), (0, .ref h0)] → W p l e (headSpec wsX12_readsGroup ({ frames := 5, cells := 0, slots := 0, locals := 106 })).room s m ([.ref h0] : List Value).toArray below meth c H locs 0 0 Q (F0 m 31 ls []) := by
    intro s_13 H locs ls hfn hP hD hS hl
    have hfn := zj_s ej_13 hfn
    refine lv_aload_n hx hb dX12_readsGroup_31 rfl (lv_at hl 2 rfl) ?_
    obtain ⟨o_14, hqo_14, hfn⟩ := zb_s hfn
    refine zcVb (ci := 12) (rest := []) (pc' := 35) (ws' := [(h0, .inr (12, zO a0 (zI (zI (zI (zI b0 6 o_5.2.1) 7 o_5.2.2.1) 8 s_13.1) 9 s_13.2) c0)), zVi (a0 0) k1 1200 f1, zVi (a0 10) k2 71 f2, zVi (a0 17) k3 2 f3, zVi (a0 18) k4 28 f4, zVi (a0 27) k5 28 f5]) hP hK hD hS hA ⟨hx, hb, hml, hown, hts⟩ (zf_X12_goesWell l dC dI h0 a0 (zI (zI (zI (zI b0 6 o_5.2.1) 7 o_5.2.2.1) 8 s_13.1) 9 s_13.2) c0 o_14 hqo_14 H.size) (cwV 0 hts gX12_readsGroup_X12_goesWell rfl rfl rfl zhd_X12_goesWell ⟨Nat.le_of_ble_eq_true rfl, Nat.le_of_ble_eq_true rfl⟩) [0] rfl (of_decide_eq_true rfl) [] rfl rfl rfl rfl hl.1 rfl (Nat.le_of_ble_eq_true rfl) dX12_readsGroup_32 ⟨Nat.le_of_ble_eq_true rfl, Nat.le_of_ble_eq_true rfl⟩ [some 0] (of_decide_eq_true rfl) (of_decide_eq_true rfl) rfl rfl rfl (fun H locs hw_17n hP hD hS => ?_)
    refine lv_if_ne (tgt := 39) hx hb dX12_readsGroup_35 (of_decide_eq_true rfl) (fun c_18 => ?_) (fun c_18 => ?_)
    · have hfn := (if_neg c_18).symm.trans hfn
      refine lv_aload_n hx hb dX12_readsGroup_39 rfl (lv_at hl 2 rfl) ?_
      refine va_get (D := (dC, dI)) (ci := 12) (v := .ref (a0 27)) (C := RX12) (T := TX12) (N := 67) hx hb hts zn_X12_readsGroup_X12 hown hK hP 0 rfl rfl 27 (of_decide_eq_true rfl) (hts (.fieldLink RX12 93 "ShortEnoughModel" "groupOf" "[I") zw_X12_readsGroup_980) (fun _ h9 => h9) rfl dX12_readsGroup_40 ?_
      refine lv_aload_n hx hb dX12_readsGroup_43 rfl (lv_at hl 2 rfl) ?_
      refine lv_iload_n hx hb dX12_readsGroup_44 rfl (lv_at hl 1 rfl) ?_
      obtain ⟨o_19, hqo_19, hfn⟩ := zb_s hfn
      refine zcVi (ci := 12) (rest := [.ref (a0 27)]) (pc' := 48) (ws' := [(h0, .inr (12, zO a0 (zI (zI (zI (zI b0 6 o_5.2.1) 7 o_5.2.2.1) 8 s_13.1) 9 s_13.2) c0)), zVi (a0 0) k1 1200 f1, zVi (a0 10) k2 71 f2, zVi (a0 17) k3 2 f3, zVi (a0 18) k4 28 f4, zVi (a0 27) k5 28 f5]) hP hK hD hS hA ⟨hx, hb, hml, hown, hts⟩ (zf_X12_n l dC dI h0 o_1.1 a0 (zI (zI (zI (zI b0 6 o_5.2.1) 7 o_5.2.2.1) 8 s_13.1) 9 s_13.2) c0 o_19 hqo_19 H.size) (cwV 1 hts gX12_readsGroup_X12_n rfl rfl rfl zhd_X12_n ⟨Nat.le_of_ble_eq_true rfl, Nat.le_of_ble_eq_true rfl⟩) [0] rfl (of_decide_eq_true rfl) [] rfl rfl rfl rfl hl.1 rfl (Nat.le_of_ble_eq_true rfl) dX12_readsGroup_45 ⟨Nat.le_of_ble_eq_true rfl, Nat.le_of_ble_eq_true rfl⟩ [some 0] (of_decide_eq_true rfl) (of_decide_eq_true rfl) rfl rfl rfl (fun H locs hP hD hS => ?_)
      obtain ⟨h_23, hfn⟩ := zg_s hfn
      refine va_iald hx hb hK hP 5 4 rfl rfl h_23 dX12_readsGroup_48 ?_
      refine lv_istore_n (lv' := [(3, .int (f5 o_19.toNatClampNeg)), (2, .int o_5.1), (1, .int o_1.1), (0, .ref h0)]) hx hb dX12_readsGroup_49 rfl hl (of_decide_eq_true rfl) rfl (fun ls hl => ?_)
      refine lv_aload_n hx hb dX12_readsGroup_50 rfl (lv_at hl 3 rfl) ?_
      refine va_get (D := (dC, dI)) (ci := 12) (v := .ref (a0 27)) (C := RX12) (T := TX12) (N := 67) hx hb hts zn_X12_readsGroup_X12 hown hK hP 0 rfl rfl 27 (of_decide_eq_true rfl) (hts (.fieldLink RX12 93 "ShortEnoughModel" "groupOf" "[I") zw_X12_readsGroup_980) (fun _ h9 => h9) rfl dX12_readsGroup_51 ?_
      refine lv_aload_n hx hb dX12_readsGroup_54 rfl (lv_at hl 3 rfl) ?_
      refine lv_iload_n hx hb dX12_readsGroup_55 rfl (lv_at hl 1 rfl) ?_
      obtain ⟨o_24, hqo_24, hfn⟩ := zb_s hfn
      refine zcVi (ci := 12) (rest := [.ref (a0 27)]) (pc' := 59) (ws' := [(h0, .inr (12, zO a0 (zI (zI (zI (zI b0 6 o_5.2.1) 7 o_5.2.2.1) 8 s_13.1) 9 s_13.2) c0)), zVi (a0 0) k1 1200 f1, zVi (a0 10) k2 71 f2, zVi (a0 17) k3 2 f3, zVi (a0 18) k4 28 f4, zVi (a0 27) k5 28 f5]) hP hK hD hS hA ⟨hx, hb, hml, hown, hts⟩ (zf_X12_n l dC dI h0 o_5.1 a0 (zI (zI (zI (zI b0 6 o_5.2.1) 7 o_5.2.2.1) 8 s_13.1) 9 s_13.2) c0 o_24 hqo_24 H.size) (cwV 1 hts gX12_readsGroup_X12_n rfl rfl rfl zhd_X12_n ⟨Nat.le_of_ble_eq_true rfl, Nat.le_of_ble_eq_true rfl⟩) [0] rfl (of_decide_eq_true rfl) [] rfl rfl rfl rfl hl.1 rfl (Nat.le_of_ble_eq_true rfl) dX12_readsGroup_56 ⟨Nat.le_of_ble_eq_true rfl, Nat.le_of_ble_eq_true rfl⟩ [some 0] (of_decide_eq_true rfl) (of_decide_eq_true rfl) rfl rfl rfl (fun H locs hP hD hS => ?_)
      obtain ⟨h_28, hfn⟩ := zg_s hfn
      refine va_iald hx hb hK hP 5 4 rfl rfl h_28 dX12_readsGroup_59 ?_
      refine lv_istore (lv' := [(4, .int (f5 o_24.toNatClampNeg)), (3, .int (f5 o_19.toNatClampNeg)), (2, .int o_5.1), (1, .int o_1.1), (0, .ref h0)]) hx hb dX12_readsGroup_60 hl (of_decide_eq_true rfl) rfl (fun ls hl => ?_)
      refine lv_iload_n hx hb dX12_readsGroup_62 rfl (lv_at hl 1 rfl) ?_
      refine lv_i2l (v := (f5 o_19.toNatClampNeg).toInt64) hx hb dX12_readsGroup_63 rfl ?_
      refine lv_iload hx hb dX12_readsGroup_64 (lv_at hl 0 rfl) ?_
      refine lv_i2l (v := (f5 o_24.toNatClampNeg).toInt64) hx hb dX12_readsGroup_66 rfl ?_
      obtain ⟨o_29, hqo_29, hfn⟩ := zb_s hfn
      refine zcSl (rest := []) (pc' := 70) (ws' := [(h0, .inr (12, zO a0 (zI (zI (zI (zI b0 6 o_5.2.1) 7 o_5.2.2.1) 8 s_13.1) 9 s_13.2) c0)), zVi (a0 0) k1 1200 f1, zVi (a0 10) k2 71 f2, zVi (a0 17) k3 2 f3, zVi (a0 18) k4 28 f4, zVi (a0 27) k5 28 f5]) hP hK hD hS hA ⟨hx, hb, hml, hown, hts⟩ (zf_X12_lesser l dC dI ((f5 o_19.toNatClampNeg).toInt64) ((f5 o_24.toNatClampNeg).toInt64) o_29 hqo_29 H.size) (va_cwS 2 hts gX12_readsGroup_X12_lesser rfl rfl rfl zhd_X12_lesser.2 ⟨Nat.le_of_ble_eq_true rfl, Nat.le_of_ble_eq_true rfl⟩) [] rfl (of_decide_eq_true rfl) [] rfl rfl hl.1 rfl (Nat.le_of_ble_eq_true rfl) dX12_readsGroup_67 ⟨Nat.le_of_ble_eq_true rfl, Nat.le_of_ble_eq_true rfl⟩ [] (of_decide_eq_true rfl) (of_decide_eq_true rfl) rfl rfl rfl (fun H locs hP hD hS => ?_)
      refine lv_l2i (v := o_29.toInt32) hx hb dX12_readsGroup_70 rfl ?_
      refine lv_istore (lv' := [(5, .int o_29.toInt32), (4, .int (f5 o_24.toNatClampNeg)), (3, .int (f5 o_19.toNatClampNeg)), (2, .int o_5.1), (1, .int o_1.1), (0, .ref h0)]) hx hb dX12_readsGroup_71 hl (of_decide_eq_true rfl) rfl (fun ls hl => ?_)
      refine lv_iconst (v := 0) hx hb dX12_readsGroup_73 zci_0 ?_
      refine lv_istore (lv' := [(6, .int 0), (5, .int o_29.toInt32), (4, .int (f5 o_24.toNatClampNeg)), (3, .int (f5 o_19.toNatClampNeg)), (2, .int o_5.1), (1, .int o_1.1), (0, .ref h0)]) hx hb dX12_readsGroup_74 hl (of_decide_eq_true rfl) rfl (fun ls hl => ?_)
      obtain ⟨bd_33, ebd_33, hfn⟩ := zl_g hfn
      have lp_33 : ∀ (n : Nat) (s_33 : Int32 × (Nat → Int32)) (H : Heap) (locs : List Loc) (ls : Array Slot), zl bd_33 n s_33 = some o → va_P (dC, dI) vwCl [(h0, .inr (12, zO a0 (zI (zI (zI (zI b0 6 o_5.2.1) 7 o_5.2.2.1) 8 s_13.1) 9 s_13.2) c0)), zVi (a0 0) k1 1200 f1, zVi (a0 10) k2 71 f2, zVi (a0 17) k3 2 f3, zVi (a0 18) k4 28 f4, zVi (a0 27) k5 28 s_33.2] H → va_D A [(h0, .inr (12, zO a0 (zI (zI (zI (zI b0 6 o_5.2.1) 7 o_5.2.2.1) 8 s_13.1) 9 s_13.2) c0)), zVi (a0 0) k1 1200 f1, zVi (a0 10) k2 71 f2, zVi (a0 17) k3 2 f3, zVi (a0 18) k4 28 f4, zVi (a0 27) k5 28 s_33.2] → va_S A s.heap H locs → lv_has ls 7 [(6, .int s_33.1), (5, .int o_29.toInt32), (4, .int (f5 o_24.toNatClampNeg)), (3, .int (f5 o_19.toNatClampNeg)), (0, .ref h0)] → W p l e (headSpec wsX12_readsGroup ({ frames := 5, cells := 0, slots := 0, locals := 106 })).room s m ([.ref h0] : List Value).toArray below meth c H locs 0 0 Q (F0 m 76 ls []) := by
        intro n
        induction n with
        | zero => exact fun _ _ _ _ hfn => (zl_0 hfn).elim
        | succ n ih_33 =>
          intro s_33 H locs ls hfn hP hD hS hl
          have hfn := zl_s ebd_33 hfn
          refine lv_iload hx hb dX12_readsGroup_76 (lv_at hl 0 rfl) ?_
          refine lv_aload_n hx hb dX12_readsGroup_78 rfl (lv_at hl 4 rfl) ?_
          refine va_get (D := (dC, dI)) (ci := 12) (v := .ref (a0 17)) (C := RX12) (T := TX12) (N := 67) hx hb hts zn_X12_readsGroup_X12 hown hK hP 0 rfl rfl 17 (of_decide_eq_true rfl) (hts (.fieldLink RX12 62 "ShortEnoughModel" "numbers" "[I") zw_X12_readsGroup_981) (fun _ h9 => h9) rfl dX12_readsGroup_79 ?_
          refine lv_aload_n hx hb dX12_readsGroup_82 rfl (lv_at hl 4 rfl) ?_
          refine va_get (D := (dC, dI)) (ci := 12) (v := .int (b0 11)) (C := RX12) (T := TX12) (N := 67) hx hb hts zn_X12_readsGroup_X12 hown hK hP 0 rfl rfl 11 (of_decide_eq_true rfl) (hts (.fieldLink RX12 44 "ShortEnoughModel" "in" "I") zw_X12_readsGroup_982) (fun _ h9 => h9) rfl dX12_readsGroup_83 ?_
          obtain ⟨h_34, hfn⟩ := zg_s hfn
          refine va_iald hx hb hK hP 3 2 rfl rfl h_34 dX12_readsGroup_86 ?_
          refine lv_icmp_ge (tgt := 140) hx hb dX12_readsGroup_87 (of_decide_eq_true rfl) (fun c_35 => ?_) (fun c_35 => ?_)
          · have hfn := (if_pos c_35).symm.trans hfn
            have ho := Option.some.inj hfn
            subst ho
            exact zrv hx hb hr hK hP hD hS hQ trivial hlocks dX12_readsGroup_140
          have hfn := (if_neg c_35).symm.trans hfn
          refine lv_aload_n hx hb dX12_readsGroup_90 rfl (lv_at hl 4 rfl) ?_
          refine va_get (D := (dC, dI)) (ci := 12) (v := .ref (a0 27)) (C := RX12) (T := TX12) (N := 67) hx hb hts zn_X12_readsGroup_X12 hown hK hP 0 rfl rfl 27 (of_decide_eq_true rfl) (hts (.fieldLink RX12 93 "ShortEnoughModel" "groupOf" "[I") zw_X12_readsGroup_980) (fun _ h9 => h9) rfl dX12_readsGroup_91 ?_
          refine lv_aload_n hx hb dX12_readsGroup_94 rfl (lv_at hl 4 rfl) ?_
          refine lv_iload hx hb dX12_readsGroup_95 (lv_at hl 0 rfl) ?_
          obtain ⟨o_36, hqo_36, hfn⟩ := zb_s hfn
          refine zcVi (ci := 12) (rest := [.ref (a0 27)]) (pc' := 100) (ws' := [(h0, .inr (12, zO a0 (zI (zI (zI (zI b0 6 o_5.2.1) 7 o_5.2.2.1) 8 s_13.1) 9 s_13.2) c0)), zVi (a0 0) k1 1200 f1, zVi (a0 10) k2 71 f2, zVi (a0 17) k3 2 f3, zVi (a0 18) k4 28 f4, zVi (a0 27) k5 28 s_33.2]) hP hK hD hS hA ⟨hx, hb, hml, hown, hts⟩ (zf_X12_n l dC dI h0 s_33.1 a0 (zI (zI (zI (zI b0 6 o_5.2.1) 7 o_5.2.2.1) 8 s_13.1) 9 s_13.2) c0 o_36 hqo_36 H.size) (cwV 1 hts gX12_readsGroup_X12_n rfl rfl rfl zhd_X12_n ⟨Nat.le_of_ble_eq_true rfl, Nat.le_of_ble_eq_true rfl⟩) [0] rfl (of_decide_eq_true rfl) [] rfl rfl rfl rfl hl.1 rfl (Nat.le_of_ble_eq_true rfl) dX12_readsGroup_97 ⟨Nat.le_of_ble_eq_true rfl, Nat.le_of_ble_eq_true rfl⟩ [some 0] (of_decide_eq_true rfl) (of_decide_eq_true rfl) rfl rfl rfl (fun H locs hP hD hS => ?_)
          obtain ⟨h_40, hfn⟩ := zg_s hfn
          refine va_iald hx hb hK hP 5 4 rfl rfl h_40 dX12_readsGroup_100 ?_
          refine lv_iload_n hx hb dX12_readsGroup_101 rfl (lv_at hl 3 rfl) ?_
          obtain ⟨j_41, ej_41, hfn⟩ := zj_g hfn
          have jp_41 : ∀ (s_41 : Unit) (H : Heap) (locs : List Loc) (ls : Array Slot), j_41 s_41 = some o → va_P (dC, dI) vwCl [(h0, .inr (12, zO a0 (zI (zI (zI (zI b0 6 o_5.2.1) 7 o_5.2.2.1) 8 s_13.1) 9 s_13.2) c0)), zVi (a0 0) k1 1200 f1, zVi (a0 10) k2 71 f2, zVi (a0 17) k3 2 f3, zVi (a0 18) k4 28 f4, zVi (a0 27) k5 28 s_33.2] H → va_D A [(h0, .inr (12, zO a0 (zI (zI (zI (zI b0 6 o_5.2.1) 7 o_5.2.2.1) 8 s_13.1) 9 s_13.2) c0)), zVi (a0 0) k1 1200 f1, zVi (a0 10) k2 71 f2, zVi (a0 17) k3 2 f3, zVi (a0 18) k4 28 f4, zVi (a0 27) k5 28 s_33.2] → va_S A s.heap H locs → lv_has ls 7 [(6, .int s_33.1), (5, .int o_29.toInt32), (4, .int (f5 o_24.toNatClampNeg)), (3, .int (f5 o_19.toNatClampNeg)), (0, .ref h0)] → W p l e (headSpec wsX12_readsGroup ({ frames := 5, cells := 0, slots := 0, locals := 106 })).room s m ([.ref h0] : List Value).toArray below meth c H locs 0 0 Q (F0 m 121 ls []) := by
            intro s_41 H locs ls hfn hP hD hS hl
            have hfn := zj_s ej_41 hfn
            refine lv_aload_n hx hb dX12_readsGroup_121 rfl (lv_at hl 4 rfl) ?_
            refine va_get (D := (dC, dI)) (ci := 12) (v := .ref (a0 27)) (C := RX12) (T := TX12) (N := 67) hx hb hts zn_X12_readsGroup_X12 hown hK hP 0 rfl rfl 27 (of_decide_eq_true rfl) (hts (.fieldLink RX12 93 "ShortEnoughModel" "groupOf" "[I") zw_X12_readsGroup_980) (fun _ h9 => h9) rfl dX12_readsGroup_122 ?_
            refine lv_aload_n hx hb dX12_readsGroup_125 rfl (lv_at hl 4 rfl) ?_
            refine lv_iload hx hb dX12_readsGroup_126 (lv_at hl 0 rfl) ?_
            obtain ⟨o_42, hqo_42, hfn⟩ := zb_s hfn
            refine zcVi (ci := 12) (rest := [.ref (a0 27)]) (pc' := 131) (ws' := [(h0, .inr (12, zO a0 (zI (zI (zI (zI b0 6 o_5.2.1) 7 o_5.2.2.1) 8 s_13.1) 9 s_13.2) c0)), zVi (a0 0) k1 1200 f1, zVi (a0 10) k2 71 f2, zVi (a0 17) k3 2 f3, zVi (a0 18) k4 28 f4, zVi (a0 27) k5 28 s_33.2]) hP hK hD hS hA ⟨hx, hb, hml, hown, hts⟩ (zf_X12_n l dC dI h0 s_33.1 a0 (zI (zI (zI (zI b0 6 o_5.2.1) 7 o_5.2.2.1) 8 s_13.1) 9 s_13.2) c0 o_42 hqo_42 H.size) (cwV 1 hts gX12_readsGroup_X12_n rfl rfl rfl zhd_X12_n ⟨Nat.le_of_ble_eq_true rfl, Nat.le_of_ble_eq_true rfl⟩) [0] rfl (of_decide_eq_true rfl) [] rfl rfl rfl rfl hl.1 rfl (Nat.le_of_ble_eq_true rfl) dX12_readsGroup_128 ⟨Nat.le_of_ble_eq_true rfl, Nat.le_of_ble_eq_true rfl⟩ [some 0] (of_decide_eq_true rfl) (of_decide_eq_true rfl) rfl rfl rfl (fun H locs hP hD hS => ?_)
            refine lv_iload hx hb dX12_readsGroup_131 (lv_at hl 1 rfl) ?_
            obtain ⟨h_46, hfn⟩ := zg_s hfn
            refine va_iast hx hb hK hP hD hS 5 4 rfl rfl h_46 dX12_readsGroup_133 (fun H locs hP hD hS => ?_)
            have hP : va_P (dC, dI) vwCl [(h0, .inr (12, zO a0 (zI (zI (zI (zI b0 6 o_5.2.1) 7 o_5.2.2.1) 8 s_13.1) 9 s_13.2) c0)), zVi (a0 0) k1 1200 f1, zVi (a0 10) k2 71 f2, zVi (a0 17) k3 2 f3, zVi (a0 18) k4 28 f4, zVi (a0 27) k5 28 (upd s_33.2 o_42.toNatClampNeg o_29.toInt32)] H := hP
            have hD := zDW hD hP rfl
            refine lv_iinc (v := (s_33.1 + 1)) (lv' := [(6, .int (s_33.1 + 1)), (5, .int o_29.toInt32), (4, .int (f5 o_24.toNatClampNeg)), (3, .int (f5 o_19.toNatClampNeg)), (0, .ref h0)]) hx hb dX12_readsGroup_134 hl (k := 0) rfl rfl (of_decide_eq_true rfl) rfl (fun ls hl => ?_)
            refine lv_goto (tgt := 76) hx hb dX12_readsGroup_137 (of_decide_eq_true rfl) ?_
            exact ih_33 ((s_33.1 + 1), (upd s_33.2 o_42.toNatClampNeg o_29.toInt32)) H locs ls hfn hP hD hS (lv_sub hl [0, 1, 2, 3, 4] rfl)
          refine lv_icmp_eq (tgt := 121) hx hb dX12_readsGroup_102 (of_decide_eq_true rfl) (fun c_47 => ?_) (fun c_47 => ?_)
          · have hfn := (if_pos c_47).symm.trans hfn
            exact jp_41 () H locs ls hfn hP hD hS (lv_sub hl [0, 1, 2, 3, 4] rfl)
          have hfn := (if_neg c_47).symm.trans hfn
          refine lv_aload_n hx hb dX12_readsGroup_105 rfl (lv_at hl 4 rfl) ?_
          refine va_get (D := (dC, dI)) (ci := 12) (v := .ref (a0 27)) (C := RX12) (T := TX12) (N := 67) hx hb hts zn_X12_readsGroup_X12 hown hK hP 0 rfl rfl 27 (of_decide_eq_true rfl) (hts (.fieldLink RX12 93 "ShortEnoughModel" "groupOf" "[I") zw_X12_readsGroup_980) (fun _ h9 => h9) rfl dX12_readsGroup_106 ?_
          refine lv_aload_n hx hb dX12_readsGroup_109 rfl (lv_at hl 4 rfl) ?_
          refine lv_iload hx hb dX12_readsGroup_110 (lv_at hl 0 rfl) ?_
          obtain ⟨o_48, hqo_48, hfn⟩ := zb_s hfn
          refine zcVi (ci := 12) (rest := [.ref (a0 27)]) (pc' := 115) (ws' := [(h0, .inr (12, zO a0 (zI (zI (zI (zI b0 6 o_5.2.1) 7 o_5.2.2.1) 8 s_13.1) 9 s_13.2) c0)), zVi (a0 0) k1 1200 f1, zVi (a0 10) k2 71 f2, zVi (a0 17) k3 2 f3, zVi (a0 18) k4 28 f4, zVi (a0 27) k5 28 s_33.2]) hP hK hD hS hA ⟨hx, hb, hml, hown, hts⟩ (zf_X12_n l dC dI h0 s_33.1 a0 (zI (zI (zI (zI b0 6 o_5.2.1) 7 o_5.2.2.1) 8 s_13.1) 9 s_13.2) c0 o_48 hqo_48 H.size) (cwV 1 hts gX12_readsGroup_X12_n rfl rfl rfl zhd_X12_n ⟨Nat.le_of_ble_eq_true rfl, Nat.le_of_ble_eq_true rfl⟩) [0] rfl (of_decide_eq_true rfl) [] rfl rfl rfl rfl hl.1 rfl (Nat.le_of_ble_eq_true rfl) dX12_readsGroup_112 ⟨Nat.le_of_ble_eq_true rfl, Nat.le_of_ble_eq_true rfl⟩ [some 0] (of_decide_eq_true rfl) (of_decide_eq_true rfl) rfl rfl rfl (fun H locs hP hD hS => ?_)
          obtain ⟨h_52, hfn⟩ := zg_s hfn
          refine va_iald hx hb hK hP 5 4 rfl rfl h_52 dX12_readsGroup_115 ?_
          refine lv_iload hx hb dX12_readsGroup_116 (lv_at hl 2 rfl) ?_
          refine lv_icmp_ne (tgt := 134) hx hb dX12_readsGroup_118 (of_decide_eq_true rfl) (fun c_53 => ?_) (fun c_53 => ?_)
          · have hfn := (if_neg c_53).symm.trans hfn
            refine lv_iinc (v := (s_33.1 + 1)) (lv' := [(6, .int (s_33.1 + 1)), (5, .int o_29.toInt32), (4, .int (f5 o_24.toNatClampNeg)), (3, .int (f5 o_19.toNatClampNeg)), (0, .ref h0)]) hx hb dX12_readsGroup_134 hl (k := 0) rfl rfl (of_decide_eq_true rfl) rfl (fun ls hl => ?_)
            refine lv_goto (tgt := 76) hx hb dX12_readsGroup_137 (of_decide_eq_true rfl) ?_
            exact ih_33 ((s_33.1 + 1), s_33.2) H locs ls hfn hP hD hS (lv_sub hl [0, 1, 2, 3, 4] rfl)
          have hfn := (if_pos c_53).symm.trans hfn
          exact jp_41 () H locs ls hfn hP hD hS (lv_sub hl [0, 1, 2, 3, 4] rfl)
      exact lp_33 _ (0, f5) H locs ls hfn hP hD hS (lv_sub hl [0, 1, 2, 3, 6] rfl)
    have hfn := (if_pos c_18).symm.trans hfn
    have ho := Option.some.inj hfn
    subst ho
    exact zrv hx hb hr hK hP hD hS hQ trivial hlocks dX12_readsGroup_38
  refine lv_if_eq (tgt := 31) hx hb dX12_readsGroup_14 (of_decide_eq_true rfl) (fun c_54 => ?_) (fun c_54 => ?_)
  · have hfn := (if_pos c_54).symm.trans hfn
    exact jp_13 (o_5.2.2.2.1, o_5.2.2.2.2) H locs ls hfn hP hD hS (lv_sub hl [0, 1, 2] rfl)
  have hfn := (if_neg c_54).symm.trans hfn
  refine lv_iload_n hx hb dX12_readsGroup_17 rfl (lv_at hl 1 rfl) ?_
  refine lv_iload_n hx hb dX12_readsGroup_18 rfl (lv_at hl 0 rfl) ?_
  refine lv_icmp_ne (tgt := 31) hx hb dX12_readsGroup_19 (of_decide_eq_true rfl) (fun c_55 => ?_) (fun c_55 => ?_)
  · have hfn := (if_neg c_55).symm.trans hfn
    exact jp_13 (o_5.2.2.2.1, o_5.2.2.2.2) H locs ls hfn hP hD hS (lv_sub hl [0, 1, 2] rfl)
  have hfn := (if_pos c_55).symm.trans hfn
  refine lv_aload_n hx hb dX12_readsGroup_22 rfl (lv_at hl 2 rfl) ?_
  refine lv_iconst (v := 3) hx hb dX12_readsGroup_23 zci_3 ?_
  refine lv_aload_n hx hb dX12_readsGroup_24 rfl (lv_at hl 2 rfl) ?_
  refine va_get (D := (dC, dI)) (ci := 12) (v := .int o_5.2.2.1) (C := RX12) (T := TX12) (N := 67) hx hb hts zn_X12_readsGroup_X12 hown hK hP 0 rfl rfl 7 (of_decide_eq_true rfl) (hts (.fieldLink RX12 32 "ShortEnoughModel" "begun" "I") zw_X12_readsGroup_979) (fun _ h9 => h9) rfl dX12_readsGroup_25 ?_
  obtain ⟨o_56, hqo_56, hfn⟩ := zb_s hfn
  refine zcVv (ci := 12) (rest := []) (pc' := 31) (ws' := [(h0, .inr (12, zO a0 (zI (zI (zI (zI b0 6 o_5.2.1) 7 o_5.2.2.1) 8 o_56.1) 9 o_56.2) c0)), zVi (a0 0) k1 1200 f1, zVi (a0 10) k2 71 f2, zVi (a0 17) k3 2 f3, zVi (a0 18) k4 28 f4, zVi (a0 27) k5 28 f5]) hP hK hD hS hA ⟨hx, hb, hml, hown, hts⟩ (zf_X12_faults l dC dI h0 3 o_5.2.2.1 a0 (zI (zI (zI (zI b0 6 o_5.2.1) 7 o_5.2.2.1) 8 o_5.2.2.2.1) 9 o_5.2.2.2.2) c0 o_56 hqo_56 H.size) (cwV 2 hts gX12_readsGroup_X12_faults rfl rfl rfl zhd_X12_faults ⟨Nat.le_of_ble_eq_true rfl, Nat.le_of_ble_eq_true rfl⟩) [0] rfl (of_decide_eq_true rfl) [] rfl rfl rfl rfl hl.1 rfl (Nat.le_of_ble_eq_true rfl) dX12_readsGroup_28 ⟨Nat.le_of_ble_eq_true rfl, Nat.le_of_ble_eq_true rfl⟩ [some 0] (of_decide_eq_true rfl) (of_decide_eq_true rfl) rfl rfl rfl (fun H locs hP hD hS => ?_)
  exact jp_13 (o_56.1, o_56.2) H locs ls hfn hP hD hS (lv_sub hl [0, 1, 2] rfl)
theorem zw_X12_readsAnswer_983 : Cond.constantLong RX12 288 (1000000) ∈ wsX12_readsAnswer := List.mem_of_getElem? (i := 1) (by decide +kernel)
theorem zn_X12_readsAnswer_X12 : ∀ w ∈ wsX120, w ∈ wsX12_readsAnswer := fun _ h => List.mem_cons_of_mem _ (List.mem_append_right _ h)
theorem zw_X12_readsAnswer_985 : Cond.fieldLink RX12 90 "ShortEnoughModel" "within" "[I" ∈ wsX12_readsAnswer := List.mem_of_getElem? (i := 2) (by decide +kernel)
set_option maxHeartbeats 4000000 in
set_option maxRecDepth 100000 in
theorem zf_X12_readsAnswer (l : Launch) (dC : Nat → ClassId) (dI : Nat → Nat → Nat) (h0 : Nat) (a0 : Nat → Nat) (b0 : Nat → Int32) (c0 : Nat → Int64) (k1 : Nat) (f1 : Nat → Int32) (k2 : Nat) (f2 : Nat → Int32) (k3 : Nat) (f3 : Nat → Int32) (k4 : Nat) (f4 : Nat → Int32) (k5 : Nat) (f5 : Nat → Int32) (o : Int32 × Int32 × Int32 × Int32 × (Nat → Int32)) (hfn : fn_X12_readsAnswer (b0 5) (b0 6) (b0 7) (b0 8) (b0 9) (b0 11) f1 f2 f3 f4 f5 = some o) (sz : Nat) : zMv l yX12_readsAnswer wsX12_readsAnswer ({ frames := 5, cells := 0, slots := 0, locals := 106 }) (dC, dI) vwCl [.ref h0] [(h0, .inr (12, zO a0 b0 c0)), zVi (a0 0) k1 1200 f1, zVi (a0 10) k2 71 f2, zVi (a0 17) k3 2 f3, zVi (a0 18) k4 28 f4, zVi (a0 26) k5 28 f5] [(k1, .int), (k2, .int), (k3, .int), (k4, .int), (k5, .int)] (fun _ => True) [(h0, .inr (12, zO a0 (zI (zI (zI (zI b0 6 o.1) 7 o.2.1) 8 o.2.2.1) 9 o.2.2.2.1) c0)), zVi (a0 0) k1 1200 f1, zVi (a0 10) k2 71 f2, zVi (a0 17) k3 2 f3, zVi (a0 18) k4 28 f4, zVi (a0 26) k5 28 o.2.2.2.2] [(k1, .int), (k2, .int), (k3, .int), (k4, .int), (k5, .int)] sz := by
  refine zgov (cc := cX12_readsAnswer) (maxL := 4) (ret := none) (C0 := RX12) (lv0 := [(0, .ref h0)]) zpl_X12 rfl rfl rfl (Nat.le_of_ble_eq_true rfl) ?_
  intro p e s m below meth c A ls Q hx hb hr hts hown hlocks hml hP hK hD hA hS hl hQ
  unfold fn_X12_readsAnswer at hfn
  refine lv_aload_n hx hb dX12_readsAnswer_0 rfl (lv_at hl 0 rfl) ?_
  obtain ⟨o_1, hqo_1, hfn⟩ := zb_s hfn
  refine zcVi (ci := 12) (rest := []) (pc' := 4) (ws' := [(h0, .inr (12, zO a0 (zI (zI (zI (zI b0 6 o_1.2.1) 7 o_1.2.2.1) 8 o_1.2.2.2.1) 9 o_1.2.2.2.2) c0)), zVi (a0 0) k1 1200 f1, zVi (a0 10) k2 71 f2, zVi (a0 17) k3 2 f3, zVi (a0 18) k4 28 f4, zVi (a0 26) k5 28 f5]) hP hK hD hS hA ⟨hx, hb, hml, hown, hts⟩ (zf_X12_toldNumber l dC dI h0 a0 b0 c0 k1 f1 k2 f2 k3 f3 k4 f4 o_1 hqo_1 s.heap.size) (cwV 0 hts gX12_readsAnswer_X12_toldNumber rfl rfl rfl zhd_X12_toldNumber ⟨Nat.le_of_ble_eq_true rfl, Nat.le_of_ble_eq_true rfl⟩) [0, 1, 2, 3, 4] rfl (of_decide_eq_true rfl) [0, 1, 2, 3] rfl rfl rfl rfl hl.1 rfl (Nat.le_of_ble_eq_true rfl) dX12_readsAnswer_1 ⟨Nat.le_of_ble_eq_true rfl, Nat.le_of_ble_eq_true rfl⟩ [some 0, some 1, some 2, some 3, some 4] (of_decide_eq_true rfl) (of_decide_eq_true rfl) rfl rfl rfl (fun H locs hP hD hS => ?_)
  refine lv_istore_n (lv' := [(1, .int o_1.1), (0, .ref h0)]) hx hb dX12_readsAnswer_4 rfl hl (of_decide_eq_true rfl) rfl (fun ls hl => ?_)
  refine lv_aload_n hx hb dX12_readsAnswer_5 rfl (lv_at hl 1 rfl) ?_
  refine lv_bipush (v := 12) hx hb dX12_readsAnswer_6 zcb_12 ?_
  obtain ⟨o_5, hqo_5, hfn⟩ := zb_s hfn
  refine zcVv (ci := 12) (rest := []) (pc' := 11) (ws' := [(h0, .inr (12, zO a0 (zI (zI (zI (zI b0 6 o_5.1) 7 o_5.2.1) 8 o_5.2.2.1) 9 o_5.2.2.2) c0)), zVi (a0 0) k1 1200 f1, zVi (a0 10) k2 71 f2, zVi (a0 17) k3 2 f3, zVi (a0 18) k4 28 f4, zVi (a0 26) k5 28 f5]) hP hK hD hS hA ⟨hx, hb, hml, hown, hts⟩ (zf_X12_must l dC dI h0 12 a0 (zI (zI (zI (zI b0 6 o_1.2.1) 7 o_1.2.2.1) 8 o_1.2.2.2.1) 9 o_1.2.2.2.2) c0 k1 f1 k2 f2 o_5 hqo_5 H.size) (cwV 1 hts gX12_readsAnswer_X12_must rfl rfl rfl zhd_X12_must ⟨Nat.le_of_ble_eq_true rfl, Nat.le_of_ble_eq_true rfl⟩) [0, 1, 2] rfl (of_decide_eq_true rfl) [0, 1] rfl rfl rfl rfl hl.1 rfl (Nat.le_of_ble_eq_true rfl) dX12_readsAnswer_8 ⟨Nat.le_of_ble_eq_true rfl, Nat.le_of_ble_eq_true rfl⟩ [some 0, some 1, some 2] (of_decide_eq_true rfl) (of_decide_eq_true rfl) rfl rfl rfl (fun H locs hP hD hS => ?_)
  refine lv_aload_n hx hb dX12_readsAnswer_11 rfl (lv_at hl 1 rfl) ?_
  refine lv_lconst (v := 0) hx hb dX12_readsAnswer_12 (by decide +kernel) ?_
  refine lv_ldc2 (v := 1000000) hx hb hown (hts (.constantLong RX12 288 (1000000)) zw_X12_readsAnswer_983) dX12_readsAnswer_13 ?_
  obtain ⟨o_9, hqo_9, hfn⟩ := zb_s hfn
  refine zcVl (ci := 12) (rest := []) (pc' := 19) (ws' := [(h0, .inr (12, zO a0 (zI (zI (zI (zI b0 6 o_9.2.1) 7 o_9.2.2.1) 8 o_9.2.2.2.1) 9 o_9.2.2.2.2) c0)), zVi (a0 0) k1 1200 f1, zVi (a0 10) k2 71 f2, zVi (a0 17) k3 2 f3, zVi (a0 18) k4 28 f4, zVi (a0 26) k5 28 f5]) hP hK hD hS hA ⟨hx, hb, hml, hown, hts⟩ (zf_X12_number l dC dI h0 (0 : Int64) (1000000 : Int64) a0 (zI (zI (zI (zI b0 6 o_5.1) 7 o_5.2.1) 8 o_5.2.2.1) 9 o_5.2.2.2) c0 k1 f1 o_9 hqo_9 H.size) (cwV 2 hts gX12_readsAnswer_X12_number rfl rfl rfl zhd_X12_number ⟨Nat.le_of_ble_eq_true rfl, Nat.le_of_ble_eq_true rfl⟩) [0, 1] rfl (of_decide_eq_true rfl) [0] rfl rfl rfl rfl hl.1 rfl (Nat.le_of_ble_eq_true rfl) dX12_readsAnswer_16 ⟨Nat.le_of_ble_eq_true rfl, Nat.le_of_ble_eq_true rfl⟩ [some 0, some 1] (of_decide_eq_true rfl) (of_decide_eq_true rfl) rfl rfl rfl (fun H locs hP hD hS => ?_)
  refine lv_lstore_n (lv' := [(2, .long o_9.1), (1, .int o_1.1), (0, .ref h0)]) hx hb dX12_readsAnswer_19 rfl hl (of_decide_eq_true rfl) rfl (fun ls hl => ?_)
  refine lv_aload_n hx hb dX12_readsAnswer_20 rfl (lv_at hl 2 rfl) ?_
  obtain ⟨o_13, hqo_13, hfn⟩ := zb_s hfn
  refine zcVb (ci := 12) (rest := []) (pc' := 24) (ws' := [(h0, .inr (12, zO a0 (zI (zI (zI (zI b0 6 o_9.2.1) 7 o_9.2.2.1) 8 o_9.2.2.2.1) 9 o_9.2.2.2.2) c0)), zVi (a0 0) k1 1200 f1, zVi (a0 10) k2 71 f2, zVi (a0 17) k3 2 f3, zVi (a0 18) k4 28 f4, zVi (a0 26) k5 28 f5]) hP hK hD hS hA ⟨hx, hb, hml, hown, hts⟩ (zf_X12_goesWell l dC dI h0 a0 (zI (zI (zI (zI b0 6 o_9.2.1) 7 o_9.2.2.1) 8 o_9.2.2.2.1) 9 o_9.2.2.2.2) c0 o_13 hqo_13 H.size) (cwV 0 hts gX12_readsAnswer_X12_goesWell rfl rfl rfl zhd_X12_goesWell ⟨Nat.le_of_ble_eq_true rfl, Nat.le_of_ble_eq_true rfl⟩) [0] rfl (of_decide_eq_true rfl) [] rfl rfl rfl rfl hl.1 rfl (Nat.le_of_ble_eq_true rfl) dX12_readsAnswer_21 ⟨Nat.le_of_ble_eq_true rfl, Nat.le_of_ble_eq_true rfl⟩ [some 0] (of_decide_eq_true rfl) (of_decide_eq_true rfl) rfl rfl rfl (fun H locs hw_16n hP hD hS => ?_)
  refine lv_if_eq (tgt := 39) hx hb dX12_readsAnswer_24 (of_decide_eq_true rfl) (fun c_17 => ?_) (fun c_17 => ?_)
  · have hfn := (if_pos c_17).symm.trans hfn
    have ho := Option.some.inj hfn
    subst ho
    exact zrv hx hb hr hK hP hD hS hQ trivial hlocks dX12_readsAnswer_39
  have hfn := (if_neg c_17).symm.trans hfn
  refine lv_aload_n hx hb dX12_readsAnswer_27 rfl (lv_at hl 2 rfl) ?_
  refine va_get (D := (dC, dI)) (ci := 12) (v := .ref (a0 26)) (C := RX12) (T := TX12) (N := 67) hx hb hts zn_X12_readsAnswer_X12 hown hK hP 0 rfl rfl 26 (of_decide_eq_true rfl) (hts (.fieldLink RX12 90 "ShortEnoughModel" "within" "[I") zw_X12_readsAnswer_985) (fun _ h9 => h9) rfl dX12_readsAnswer_28 ?_
  refine lv_aload_n hx hb dX12_readsAnswer_31 rfl (lv_at hl 2 rfl) ?_
  refine lv_iload_n hx hb dX12_readsAnswer_32 rfl (lv_at hl 1 rfl) ?_
  obtain ⟨o_18, hqo_18, hfn⟩ := zb_s hfn
  refine zcVi (ci := 12) (rest := [.ref (a0 26)]) (pc' := 36) (ws' := [(h0, .inr (12, zO a0 (zI (zI (zI (zI b0 6 o_9.2.1) 7 o_9.2.2.1) 8 o_9.2.2.2.1) 9 o_9.2.2.2.2) c0)), zVi (a0 0) k1 1200 f1, zVi (a0 10) k2 71 f2, zVi (a0 17) k3 2 f3, zVi (a0 18) k4 28 f4, zVi (a0 26) k5 28 f5]) hP hK hD hS hA ⟨hx, hb, hml, hown, hts⟩ (zf_X12_n l dC dI h0 o_1.1 a0 (zI (zI (zI (zI b0 6 o_9.2.1) 7 o_9.2.2.1) 8 o_9.2.2.2.1) 9 o_9.2.2.2.2) c0 o_18 hqo_18 H.size) (cwV 1 hts gX12_readsAnswer_X12_n rfl rfl rfl zhd_X12_n ⟨Nat.le_of_ble_eq_true rfl, Nat.le_of_ble_eq_true rfl⟩) [0] rfl (of_decide_eq_true rfl) [] rfl rfl rfl rfl hl.1 rfl (Nat.le_of_ble_eq_true rfl) dX12_readsAnswer_33 ⟨Nat.le_of_ble_eq_true rfl, Nat.le_of_ble_eq_true rfl⟩ [some 0] (of_decide_eq_true rfl) (of_decide_eq_true rfl) rfl rfl rfl (fun H locs hP hD hS => ?_)
  refine lv_lload_n hx hb dX12_readsAnswer_36 rfl (lv_at hl 0 rfl) ?_
  refine lv_l2i (v := o_9.1.toInt32) hx hb dX12_readsAnswer_37 rfl ?_
  obtain ⟨h_22, hfn⟩ := zg_s hfn
  refine va_iast hx hb hK hP hD hS 5 4 rfl rfl h_22 dX12_readsAnswer_38 (fun H locs hP hD hS => ?_)
  have hP : va_P (dC, dI) vwCl [(h0, .inr (12, zO a0 (zI (zI (zI (zI b0 6 o_9.2.1) 7 o_9.2.2.1) 8 o_9.2.2.2.1) 9 o_9.2.2.2.2) c0)), zVi (a0 0) k1 1200 f1, zVi (a0 10) k2 71 f2, zVi (a0 17) k3 2 f3, zVi (a0 18) k4 28 f4, zVi (a0 26) k5 28 (upd f5 o_18.toNatClampNeg o_9.1.toInt32)] H := hP
  have hD := zDW hD hP rfl
  have ho := Option.some.inj hfn
  subst ho
  exact zrv hx hb hr hK hP hD hS hQ trivial hlocks dX12_readsAnswer_39

set_option maxHeartbeats 4000000 in
set_option maxRecDepth 100000 in
theorem zf_X12_isBeginning (l : Launch) (dC : Nat → ClassId) (dI : Nat → Nat → Nat) (p0 : Int32) (o : Int32) (hfn : fn_X12_isBeginning p0 = some o) (sz : Nat) : zMi l yX12_isBeginning wsX12_isBeginning ({ frames := 0, cells := 0, slots := 0, locals := 0 }) (dC, dI) vwCl [.int p0] [] [] (fun r _ => r = o ∧ narrow .boolean (.int o) = .int o) [] [] sz := by
  refine zgoi (cc := cX12_isBeginning) (maxL := 1) (ret := (some .boolean)) (C0 := RX12) (lv0 := [(0, .int p0)]) zpl_X12 rfl rfl rfl (Nat.le_of_ble_eq_true rfl) ?_
  intro p e s m below meth c A ls Q hx hb hr hts hown hlocks hml hP hK hD hA hS hl hQ
  unfold fn_X12_isBeginning at hfn
  refine lv_iload_n hx hb dX12_isBeginning_0 rfl (lv_at hl 0 rfl) ?_
  refine lv_if_eq (tgt := 38) hx hb dX12_isBeginning_1 (of_decide_eq_true rfl) (fun c_1 => ?_) (fun c_1 => ?_)
  · have hfn := (if_pos c_1).symm.trans hfn
    refine lv_iconst (v := 1) hx hb dX12_isBeginning_38 zci_1 ?_
    refine lv_goto (tgt := 43) hx hb dX12_isBeginning_39 (of_decide_eq_true rfl) ?_
    have ho := Option.some.inj hfn
    subst ho
    exact zrz hx hb hr rfl hK hP hD hS hQ ⟨rfl, zB1⟩ hlocks dX12_isBeginning_43
  have hfn := (if_neg c_1).symm.trans hfn
  refine lv_iload_n hx hb dX12_isBeginning_4 rfl (lv_at hl 0 rfl) ?_
  refine lv_iconst (v := 4) hx hb dX12_isBeginning_5 zci_4 ?_
  refine lv_icmp_eq (tgt := 38) hx hb dX12_isBeginning_6 (of_decide_eq_true rfl) (fun c_2 => ?_) (fun c_2 => ?_)
  · have hfn := (if_pos c_2).symm.trans hfn
    refine lv_iconst (v := 1) hx hb dX12_isBeginning_38 zci_1 ?_
    refine lv_goto (tgt := 43) hx hb dX12_isBeginning_39 (of_decide_eq_true rfl) ?_
    have ho := Option.some.inj hfn
    subst ho
    exact zrz hx hb hr rfl hK hP hD hS hQ ⟨rfl, zB1⟩ hlocks dX12_isBeginning_43
  have hfn := (if_neg c_2).symm.trans hfn
  refine lv_iload_n hx hb dX12_isBeginning_9 rfl (lv_at hl 0 rfl) ?_
  refine lv_iconst (v := 5) hx hb dX12_isBeginning_10 zci_5 ?_
  refine lv_icmp_eq (tgt := 38) hx hb dX12_isBeginning_11 (of_decide_eq_true rfl) (fun c_3 => ?_) (fun c_3 => ?_)
  · have hfn := (if_pos c_3).symm.trans hfn
    refine lv_iconst (v := 1) hx hb dX12_isBeginning_38 zci_1 ?_
    refine lv_goto (tgt := 43) hx hb dX12_isBeginning_39 (of_decide_eq_true rfl) ?_
    have ho := Option.some.inj hfn
    subst ho
    exact zrz hx hb hr rfl hK hP hD hS hQ ⟨rfl, zB1⟩ hlocks dX12_isBeginning_43
  have hfn := (if_neg c_3).symm.trans hfn
  refine lv_iload_n hx hb dX12_isBeginning_14 rfl (lv_at hl 0 rfl) ?_
  refine lv_bipush (v := 6) hx hb dX12_isBeginning_15 zcb_6 ?_
  refine lv_icmp_eq (tgt := 38) hx hb dX12_isBeginning_17 (of_decide_eq_true rfl) (fun c_4 => ?_) (fun c_4 => ?_)
  · have hfn := (if_pos c_4).symm.trans hfn
    refine lv_iconst (v := 1) hx hb dX12_isBeginning_38 zci_1 ?_
    refine lv_goto (tgt := 43) hx hb dX12_isBeginning_39 (of_decide_eq_true rfl) ?_
    have ho := Option.some.inj hfn
    subst ho
    exact zrz hx hb hr rfl hK hP hD hS hQ ⟨rfl, zB1⟩ hlocks dX12_isBeginning_43
  have hfn := (if_neg c_4).symm.trans hfn
  refine lv_iload_n hx hb dX12_isBeginning_20 rfl (lv_at hl 0 rfl) ?_
  refine lv_bipush (v := 9) hx hb dX12_isBeginning_21 zcb_9 ?_
  refine lv_icmp_eq (tgt := 38) hx hb dX12_isBeginning_23 (of_decide_eq_true rfl) (fun c_5 => ?_) (fun c_5 => ?_)
  · have hfn := (if_pos c_5).symm.trans hfn
    refine lv_iconst (v := 1) hx hb dX12_isBeginning_38 zci_1 ?_
    refine lv_goto (tgt := 43) hx hb dX12_isBeginning_39 (of_decide_eq_true rfl) ?_
    have ho := Option.some.inj hfn
    subst ho
    exact zrz hx hb hr rfl hK hP hD hS hQ ⟨rfl, zB1⟩ hlocks dX12_isBeginning_43
  have hfn := (if_neg c_5).symm.trans hfn
  refine lv_iload_n hx hb dX12_isBeginning_26 rfl (lv_at hl 0 rfl) ?_
  refine lv_bipush (v := 10) hx hb dX12_isBeginning_27 zcb_10 ?_
  refine lv_icmp_eq (tgt := 38) hx hb dX12_isBeginning_29 (of_decide_eq_true rfl) (fun c_6 => ?_) (fun c_6 => ?_)
  · have hfn := (if_pos c_6).symm.trans hfn
    refine lv_iconst (v := 1) hx hb dX12_isBeginning_38 zci_1 ?_
    refine lv_goto (tgt := 43) hx hb dX12_isBeginning_39 (of_decide_eq_true rfl) ?_
    have ho := Option.some.inj hfn
    subst ho
    exact zrz hx hb hr rfl hK hP hD hS hQ ⟨rfl, zB1⟩ hlocks dX12_isBeginning_43
  have hfn := (if_neg c_6).symm.trans hfn
  refine lv_iload_n hx hb dX12_isBeginning_32 rfl (lv_at hl 0 rfl) ?_
  refine lv_bipush (v := 11) hx hb dX12_isBeginning_33 zcb_11 ?_
  refine lv_icmp_ne (tgt := 42) hx hb dX12_isBeginning_35 (of_decide_eq_true rfl) (fun c_7 => ?_) (fun c_7 => ?_)
  · have hfn := (if_neg c_7).symm.trans hfn
    refine lv_iconst (v := 0) hx hb dX12_isBeginning_42 zci_0 ?_
    have ho := Option.some.inj hfn
    subst ho
    exact zrz hx hb hr rfl hK hP hD hS hQ ⟨rfl, zB0⟩ hlocks dX12_isBeginning_43
  have hfn := (if_pos c_7).symm.trans hfn
  refine lv_iconst (v := 1) hx hb dX12_isBeginning_38 zci_1 ?_
  refine lv_goto (tgt := 43) hx hb dX12_isBeginning_39 (of_decide_eq_true rfl) ?_
  have ho := Option.some.inj hfn
  subst ho
  exact zrz hx hb hr rfl hK hP hD hS hQ ⟨rfl, zB1⟩ hlocks dX12_isBeginning_43
theorem zn_X12_readsStatement_X12 : ∀ w ∈ wsX120, w ∈ wsX12_readsStatement := fun _ h => List.mem_cons_of_mem _ (List.mem_append_right _ h)
theorem zw_X12_readsStatement_987 : Cond.fieldLink RX12 32 "ShortEnoughModel" "begun" "I" ∈ wsX12_readsStatement := List.mem_of_getElem? (i := 1) (by decide +kernel)
theorem zw_X12_readsStatement_988 : Cond.fieldLink RX12 47 "ShortEnoughModel" "formats" "[I" ∈ wsX12_readsStatement := List.mem_of_getElem? (i := 2) (by decide +kernel)
theorem zw_X12_readsStatement_989 : Cond.fieldLink RX12 44 "ShortEnoughModel" "in" "I" ∈ wsX12_readsStatement := List.mem_of_getElem? (i := 3) (by decide +kernel)
theorem zw_X12_readsStatement_990 : Cond.fieldLink RX12 62 "ShortEnoughModel" "numbers" "[I" ∈ wsX12_readsStatement := List.mem_of_getElem? (i := 4) (by decide +kernel)
theorem zw_X12_readsStatement_991 : Cond.constantLong RX12 296 (999) ∈ wsX12_readsStatement := List.mem_of_getElem? (i := 5) (by decide +kernel)
theorem zw_X12_readsStatement_992 : Cond.fieldLink RX12 84 "ShortEnoughModel" "castCost" "[I" ∈ wsX12_readsStatement := List.mem_of_getElem? (i := 6) (by decide +kernel)
set_option maxHeartbeats 4000000 in
set_option maxRecDepth 100000 in
theorem zf_X12_readsStatement (l : Launch) (dC : Nat → ClassId) (dI : Nat → Nat → Nat) (h0 : Nat) (p1 : Int32) (a0 : Nat → Nat) (b0 : Nat → Int32) (c0 : Nat → Int64) (k1 : Nat) (f1 : Nat → Int32) (k2 : Nat) (f2 : Nat → Int32) (k3 : Nat) (f3 : Nat → Int32) (k4 : Nat) (f4 : Nat → Int32) (k5 : Nat) (f5 : Nat → Int32) (k6 : Nat) (f6 : Nat → Int32) (k7 : Nat) (f7 : Nat → Int32) (k8 : Nat) (f8 : Nat → Int32) (k9 : Nat) (f9 : Nat → Int32) (k10 : Nat) (f10 : Nat → Int32) (k11 : Nat) (f11 : Nat → Int32) (k12 : Nat) (f12 : Nat → Int32) (k13 : Nat) (f13 : Nat → Int32) (k14 : Nat) (f14 : Nat → Int32) (k15 : Nat) (f15 : Nat → Int32) (k16 : Nat) (f16 : Nat → Int32) (k17 : Nat) (f17 : Nat → Int64) (k18 : Nat) (f18 : Nat → Int64) (o : Int64 × Int32 × Int32 × Int32 × Int32 × (Nat → Int32) × (Nat → Int32) × (Nat → Int32) × (Nat → Int32) × (Nat → Int32) × (Nat → Int32) × (Nat → Int32) × (Nat → Int32) × (Nat → Int32) × (Nat → Int32) × (Nat → Int32) × (Nat → Int32) × (Nat → Int32) × (Nat → Int32) × (Nat → Int64) × (Nat → Int64)) (hfn : fn_X12_readsStatement p1 (b0 5) (b0 6) (b0 7) (b0 8) (b0 9) (b0 11) (c0 28) f1 f2 f3 f4 f5 f6 f7 f8 f9 f10 f11 f12 f13 f14 f15 f16 f17 f18 = some o) (sz : Nat) : zMv l yX12_readsStatement wsX12_readsStatement ({ frames := 7, cells := 0, slots := 0, locals := 155 }) (dC, dI) vwCl [.ref h0, .int p1] [(h0, .inr (12, zO a0 b0 c0)), zVi (a0 0) k1 1200 f1, zVi (a0 10) k2 71 f2, zVi (a0 12) k3 2 f3, zVi (a0 17) k4 2 f4, zVi (a0 13) k5 8 f5, zVi (a0 18) k6 28 f6, zVi (a0 14) k7 8 f7, zVi (a0 15) k8 8 f8, zVi (a0 16) k9 8 f9, zVi (a0 26) k10 28 f10, zVi (a0 24) k11 2 f11, zVi (a0 19) k12 28 f12, zVi (a0 20) k13 28 f13, zVi (a0 21) k14 28 f14, zVi (a0 25) k15 28 f15, zVi (a0 27) k16 28 f16, zVl (a0 22) k17 28 f17, zVl (a0 23) k18 28 f18] [(k1, .int), (k2, .int), (k3, .int), (k4, .int), (k5, .int), (k6, .int), (k7, .int), (k8, .int), (k9, .int), (k10, .int), (k11, .int), (k12, .int), (k13, .int), (k14, .int), (k15, .int), (k16, .int), (k17, .long), (k18, .long)] (fun _ => True) [(h0, .inr (12, zO a0 (zI (zI (zI (zI b0 6 o.2.1) 7 o.2.2.1) 8 o.2.2.2.1) 9 o.2.2.2.2.1) (zJ c0 28 o.1))), zVi (a0 0) k1 1200 f1, zVi (a0 10) k2 71 f2, zVi (a0 12) k3 2 o.2.2.2.2.2.1, zVi (a0 17) k4 2 o.2.2.2.2.2.2.1, zVi (a0 13) k5 8 o.2.2.2.2.2.2.2.1, zVi (a0 18) k6 28 o.2.2.2.2.2.2.2.2.1, zVi (a0 14) k7 8 o.2.2.2.2.2.2.2.2.2.1, zVi (a0 15) k8 8 o.2.2.2.2.2.2.2.2.2.2.1, zVi (a0 16) k9 8 o.2.2.2.2.2.2.2.2.2.2.2.1, zVi (a0 26) k10 28 o.2.2.2.2.2.2.2.2.2.2.2.2.1, zVi (a0 24) k11 2 o.2.2.2.2.2.2.2.2.2.2.2.2.2.1, zVi (a0 19) k12 28 o.2.2.2.2.2.2.2.2.2.2.2.2.2.2.1, zVi (a0 20) k13 28 o.2.2.2.2.2.2.2.2.2.2.2.2.2.2.2.1, zVi (a0 21) k14 28 o.2.2.2.2.2.2.2.2.2.2.2.2.2.2.2.2.1, zVi (a0 25) k15 28 o.2.2.2.2.2.2.2.2.2.2.2.2.2.2.2.2.2.1, zVi (a0 27) k16 28 o.2.2.2.2.2.2.2.2.2.2.2.2.2.2.2.2.2.2.1, zVl (a0 22) k17 28 o.2.2.2.2.2.2.2.2.2.2.2.2.2.2.2.2.2.2.2.1, zVl (a0 23) k18 28 o.2.2.2.2.2.2.2.2.2.2.2.2.2.2.2.2.2.2.2.2] [(k1, .int), (k2, .int), (k3, .int), (k4, .int), (k5, .int), (k6, .int), (k7, .int), (k8, .int), (k9, .int), (k10, .int), (k11, .int), (k12, .int), (k13, .int), (k14, .int), (k15, .int), (k16, .int), (k17, .long), (k18, .long)] sz := by
  refine zgov (cc := cX12_readsStatement) (maxL := 6) (ret := none) (C0 := RX12) (lv0 := [(0, .ref h0), (1, .int p1)]) zpl_X12 rfl rfl rfl (Nat.le_of_ble_eq_true rfl) ?_
  intro p e s m below meth c A ls Q hx hb hr hts hown hlocks hml hP hK hD hA hS hl hQ
  unfold fn_X12_readsStatement at hfn
  refine lv_aload_n hx hb dX12_readsStatement_0 rfl (lv_at hl 0 rfl) ?_
  obtain ⟨o_1, hqo_1, hfn⟩ := zb_s hfn
  refine zcVv (ci := 12) (rest := []) (pc' := 4) (ws' := [(h0, .inr (12, zO a0 (zI (zI (zI (zI b0 6 o_1.1) 7 o_1.2.1) 8 o_1.2.2.1) 9 o_1.2.2.2) c0)), zVi (a0 0) k1 1200 f1, zVi (a0 10) k2 71 f2, zVi (a0 12) k3 2 f3, zVi (a0 17) k4 2 f4, zVi (a0 13) k5 8 f5, zVi (a0 18) k6 28 f6, zVi (a0 14) k7 8 f7, zVi (a0 15) k8 8 f8, zVi (a0 16) k9 8 f9, zVi (a0 26) k10 28 f10, zVi (a0 24) k11 2 f11, zVi (a0 19) k12 28 f12, zVi (a0 20) k13 28 f13, zVi (a0 21) k14 28 f14, zVi (a0 25) k15 28 f15, zVi (a0 27) k16 28 f16, zVl (a0 22) k17 28 f17, zVl (a0 23) k18 28 f18]) hP hK hD hS hA ⟨hx, hb, hml, hown, hts⟩ (zf_X12_word l dC dI h0 a0 b0 c0 k1 f1 o_1 hqo_1 s.heap.size) (cwV 0 hts gX12_readsStatement_X12_word rfl rfl rfl zhd_X12_word ⟨Nat.le_of_ble_eq_true rfl, Nat.le_of_ble_eq_true rfl⟩) [0, 1] rfl (of_decide_eq_true rfl) [0] rfl rfl rfl rfl hl.1 rfl (Nat.le_of_ble_eq_true rfl) dX12_readsStatement_1 ⟨Nat.le_of_ble_eq_true rfl, Nat.le_of_ble_eq_true rfl⟩ [some 0, some 1] (of_decide_eq_true rfl) (of_decide_eq_true rfl) rfl rfl rfl (fun H locs hP hD hS => ?_)
  refine lv_aload_n hx hb dX12_readsStatement_4 rfl (lv_at hl 0 rfl) ?_
  obtain ⟨o_5, hqo_5, hfn⟩ := zb_s hfn
  refine zcVb (ci := 12) (rest := []) (pc' := 8) (ws' := [(h0, .inr (12, zO a0 (zI (zI (zI (zI b0 6 o_1.1) 7 o_1.2.1) 8 o_1.2.2.1) 9 o_1.2.2.2) c0)), zVi (a0 0) k1 1200 f1, zVi (a0 10) k2 71 f2, zVi (a0 12) k3 2 f3, zVi (a0 17) k4 2 f4, zVi (a0 13) k5 8 f5, zVi (a0 18) k6 28 f6, zVi (a0 14) k7 8 f7, zVi (a0 15) k8 8 f8, zVi (a0 16) k9 8 f9, zVi (a0 26) k10 28 f10, zVi (a0 24) k11 2 f11, zVi (a0 19) k12 28 f12, zVi (a0 20) k13 28 f13, zVi (a0 21) k14 28 f14, zVi (a0 25) k15 28 f15, zVi (a0 27) k16 28 f16, zVl (a0 22) k17 28 f17, zVl (a0 23) k18 28 f18]) hP hK hD hS hA ⟨hx, hb, hml, hown, hts⟩ (zf_X12_goesWell l dC dI h0 a0 (zI (zI (zI (zI b0 6 o_1.1) 7 o_1.2.1) 8 o_1.2.2.1) 9 o_1.2.2.2) c0 o_5 hqo_5 H.size) (cwV 0 hts gX12_readsStatement_X12_goesWell rfl rfl rfl zhd_X12_goesWell ⟨Nat.le_of_ble_eq_true rfl, Nat.le_of_ble_eq_true rfl⟩) [0] rfl (of_decide_eq_true rfl) [] rfl rfl rfl rfl hl.1 rfl (Nat.le_of_ble_eq_true rfl) dX12_readsStatement_5 ⟨Nat.le_of_ble_eq_true rfl, Nat.le_of_ble_eq_true rfl⟩ [some 0] (of_decide_eq_true rfl) (of_decide_eq_true rfl) rfl rfl rfl (fun H locs hw_8n hP hD hS => ?_)
  obtain ⟨j_9, ej_9, hfn⟩ := zj_g hfn
  have jp_9 : ∀ (s_9 : Int32) (H : Heap) (locs : List Loc) (ls : Array Slot), j_9 s_9 = some o → va_P (dC, dI) vwCl [(h0, .inr (12, zO a0 (zI (zI (zI (zI b0 6 o_1.1) 7 o_1.2.1) 8 o_1.2.2.1) 9 o_1.2.2.2) c0)), zVi (a0 0) k1 1200 f1, zVi (a0 10) k2 71 f2, zVi (a0 12) k3 2 f3, zVi (a0 17) k4 2 f4, zVi (a0 13) k5 8 f5, zVi (a0 18) k6 28 f6, zVi (a0 14) k7 8 f7, zVi (a0 15) k8 8 f8, zVi (a0 16) k9 8 f9, zVi (a0 26) k10 28 f10, zVi (a0 24) k11 2 f11, zVi (a0 19) k12 28 f12, zVi (a0 20) k13 28 f13, zVi (a0 21) k14 28 f14, zVi (a0 25) k15 28 f15, zVi (a0 27) k16 28 f16, zVl (a0 22) k17 28 f17, zVl (a0 23) k18 28 f18] H → va_D A [(h0, .inr (12, zO a0 (zI (zI (zI (zI b0 6 o_1.1) 7 o_1.2.1) 8 o_1.2.2.1) 9 o_1.2.2.2) c0)), zVi (a0 0) k1 1200 f1, zVi (a0 10) k2 71 f2, zVi (a0 12) k3 2 f3, zVi (a0 17) k4 2 f4, zVi (a0 13) k5 8 f5, zVi (a0 18) k6 28 f6, zVi (a0 14) k7 8 f7, zVi (a0 15) k8 8 f8, zVi (a0 16) k9 8 f9, zVi (a0 26) k10 28 f10, zVi (a0 24) k11 2 f11, zVi (a0 19) k12 28 f12, zVi (a0 20) k13 28 f13, zVi (a0 21) k14 28 f14, zVi (a0 25) k15 28 f15, zVi (a0 27) k16 28 f16, zVl (a0 22) k17 28 f17, zVl (a0 23) k18 28 f18] → va_S A s.heap H locs → lv_has ls 6 [(0, .ref h0), (1, .int p1)] → W p l e (headSpec wsX12_readsStatement ({ frames := 7, cells := 0, slots := 0, locals := 155 })).room s m ([.ref h0, .int p1] : List Value).toArray below meth c H locs 0 0 Q (F0 m 19 ls [.int s_9]) := by
    intro s_9 H locs ls hfn hP hD hS hl
    have hfn := zj_s ej_9 hfn
    refine lv_istore_n (lv' := [(2, .int s_9), (0, .ref h0), (1, .int p1)]) hx hb dX12_readsStatement_19 rfl hl (of_decide_eq_true rfl) rfl (fun ls hl => ?_)
    refine lv_aload_n hx hb dX12_readsStatement_20 rfl (lv_at hl 1 rfl) ?_
    obtain ⟨o_10, hqo_10, hfn⟩ := zb_s hfn
    refine zcVb (ci := 12) (rest := []) (pc' := 24) (ws' := [(h0, .inr (12, zO a0 (zI (zI (zI (zI b0 6 o_1.1) 7 o_1.2.1) 8 o_1.2.2.1) 9 o_1.2.2.2) c0)), zVi (a0 0) k1 1200 f1, zVi (a0 10) k2 71 f2, zVi (a0 12) k3 2 f3, zVi (a0 17) k4 2 f4, zVi (a0 13) k5 8 f5, zVi (a0 18) k6 28 f6, zVi (a0 14) k7 8 f7, zVi (a0 15) k8 8 f8, zVi (a0 16) k9 8 f9, zVi (a0 26) k10 28 f10, zVi (a0 24) k11 2 f11, zVi (a0 19) k12 28 f12, zVi (a0 20) k13 28 f13, zVi (a0 21) k14 28 f14, zVi (a0 25) k15 28 f15, zVi (a0 27) k16 28 f16, zVl (a0 22) k17 28 f17, zVl (a0 23) k18 28 f18]) hP hK hD hS hA ⟨hx, hb, hml, hown, hts⟩ (zf_X12_goesWell l dC dI h0 a0 (zI (zI (zI (zI b0 6 o_1.1) 7 o_1.2.1) 8 o_1.2.2.1) 9 o_1.2.2.2) c0 o_10 hqo_10 H.size) (cwV 0 hts gX12_readsStatement_X12_goesWell rfl rfl rfl zhd_X12_goesWell ⟨Nat.le_of_ble_eq_true rfl, Nat.le_of_ble_eq_true rfl⟩) [0] rfl (of_decide_eq_true rfl) [] rfl rfl rfl rfl hl.1 rfl (Nat.le_of_ble_eq_true rfl) dX12_readsStatement_21 ⟨Nat.le_of_ble_eq_true rfl, Nat.le_of_ble_eq_true rfl⟩ [some 0] (of_decide_eq_true rfl) (of_decide_eq_true rfl) rfl rfl rfl (fun H locs hw_13n hP hD hS => ?_)
    obtain ⟨j_14, ej_14, hfn⟩ := zj_g hfn
    have jp_14 : ∀ (s_14 : Int32 × Int32) (H : Heap) (locs : List Loc) (ls : Array Slot), j_14 s_14 = some o → va_P (dC, dI) vwCl [(h0, .inr (12, zO a0 (zI (zI (zI (zI b0 6 o_1.1) 7 o_1.2.1) 8 s_14.1) 9 s_14.2) c0)), zVi (a0 0) k1 1200 f1, zVi (a0 10) k2 71 f2, zVi (a0 12) k3 2 f3, zVi (a0 17) k4 2 f4, zVi (a0 13) k5 8 f5, zVi (a0 18) k6 28 f6, zVi (a0 14) k7 8 f7, zVi (a0 15) k8 8 f8, zVi (a0 16) k9 8 f9, zVi (a0 26) k10 28 f10, zVi (a0 24) k11 2 f11, zVi (a0 19) k12 28 f12, zVi (a0 20) k13 28 f13, zVi (a0 21) k14 28 f14, zVi (a0 25) k15 28 f15, zVi (a0 27) k16 28 f16, zVl (a0 22) k17 28 f17, zVl (a0 23) k18 28 f18] H → va_D A [(h0, .inr (12, zO a0 (zI (zI (zI (zI b0 6 o_1.1) 7 o_1.2.1) 8 s_14.1) 9 s_14.2) c0)), zVi (a0 0) k1 1200 f1, zVi (a0 10) k2 71 f2, zVi (a0 12) k3 2 f3, zVi (a0 17) k4 2 f4, zVi (a0 13) k5 8 f5, zVi (a0 18) k6 28 f6, zVi (a0 14) k7 8 f7, zVi (a0 15) k8 8 f8, zVi (a0 16) k9 8 f9, zVi (a0 26) k10 28 f10, zVi (a0 24) k11 2 f11, zVi (a0 19) k12 28 f12, zVi (a0 20) k13 28 f13, zVi (a0 21) k14 28 f14, zVi (a0 25) k15 28 f15, zVi (a0 27) k16 28 f16, zVl (a0 22) k17 28 f17, zVl (a0 23) k18 28 f18] → va_S A s.heap H locs → lv_has ls 6 [(2, .int s_9), (0, .ref h0), (1, .int p1)] → W p l e (headSpec wsX12_readsStatement ({ frames := 7, cells := 0, slots := 0, locals := 155 })).room s m ([.ref h0, .int p1] : List Value).toArray below meth c H locs 0 0 Q (F0 m 43 ls []) := by
      intro s_14 H locs ls hfn hP hD hS hl
      have hfn := zj_s ej_14 hfn
      refine lv_iload_n hx hb dX12_readsStatement_43 rfl (lv_at hl 2 rfl) ?_
      refine lv_bipush (v := 40) hx hb dX12_readsStatement_44 zcb_40 ?_
      obtain ⟨j_15, ej_15, hfn⟩ := zj_g hfn
      have jp_15 : ∀ (s_15 : Int32) (H : Heap) (locs : List Loc) (ls : Array Slot), j_15 s_15 = some o → va_P (dC, dI) vwCl [(h0, .inr (12, zO a0 (zI (zI (zI (zI b0 6 o_1.1) 7 o_1.2.1) 8 s_14.1) 9 s_14.2) c0)), zVi (a0 0) k1 1200 f1, zVi (a0 10) k2 71 f2, zVi (a0 12) k3 2 f3, zVi (a0 17) k4 2 f4, zVi (a0 13) k5 8 f5, zVi (a0 18) k6 28 f6, zVi (a0 14) k7 8 f7, zVi (a0 15) k8 8 f8, zVi (a0 16) k9 8 f9, zVi (a0 26) k10 28 f10, zVi (a0 24) k11 2 f11, zVi (a0 19) k12 28 f12, zVi (a0 20) k13 28 f13, zVi (a0 21) k14 28 f14, zVi (a0 25) k15 28 f15, zVi (a0 27) k16 28 f16, zVl (a0 22) k17 28 f17, zVl (a0 23) k18 28 f18] H → va_D A [(h0, .inr (12, zO a0 (zI (zI (zI (zI b0 6 o_1.1) 7 o_1.2.1) 8 s_14.1) 9 s_14.2) c0)), zVi (a0 0) k1 1200 f1, zVi (a0 10) k2 71 f2, zVi (a0 12) k3 2 f3, zVi (a0 17) k4 2 f4, zVi (a0 13) k5 8 f5, zVi (a0 18) k6 28 f6, zVi (a0 14) k7 8 f7, zVi (a0 15) k8 8 f8, zVi (a0 16) k9 8 f9, zVi (a0 26) k10 28 f10, zVi (a0 24) k11 2 f11, zVi (a0 19) k12 28 f12, zVi (a0 20) k13 28 f13, zVi (a0 21) k14 28 f14, zVi (a0 25) k15 28 f15, zVi (a0 27) k16 28 f16, zVl (a0 22) k17 28 f17, zVl (a0 23) k18 28 f18] → va_S A s.heap H locs → lv_has ls 6 [(2, .int s_9), (0, .ref h0)] → W p l e (headSpec wsX12_readsStatement ({ frames := 7, cells := 0, slots := 0, locals := 155 })).room s m ([.ref h0, .int p1] : List Value).toArray below meth c H locs 0 0 Q (F0 m 96 ls [.int s_15]) := by
        intro s_15 H locs ls hfn hP hD hS hl
        have hfn := zj_s ej_15 hfn
        refine lv_istore_n (lv' := [(3, .int s_15), (2, .int s_9), (0, .ref h0)]) hx hb dX12_readsStatement_96 rfl hl (of_decide_eq_true rfl) rfl (fun ls hl => ?_)
        refine lv_aload_n hx hb dX12_readsStatement_97 rfl (lv_at hl 2 rfl) ?_
        obtain ⟨o_16, hqo_16, hfn⟩ := zb_s hfn
        refine zcVb (ci := 12) (rest := []) (pc' := 101) (ws' := [(h0, .inr (12, zO a0 (zI (zI (zI (zI b0 6 o_1.1) 7 o_1.2.1) 8 s_14.1) 9 s_14.2) c0)), zVi (a0 0) k1 1200 f1, zVi (a0 10) k2 71 f2, zVi (a0 12) k3 2 f3, zVi (a0 17) k4 2 f4, zVi (a0 13) k5 8 f5, zVi (a0 18) k6 28 f6, zVi (a0 14) k7 8 f7, zVi (a0 15) k8 8 f8, zVi (a0 16) k9 8 f9, zVi (a0 26) k10 28 f10, zVi (a0 24) k11 2 f11, zVi (a0 19) k12 28 f12, zVi (a0 20) k13 28 f13, zVi (a0 21) k14 28 f14, zVi (a0 25) k15 28 f15, zVi (a0 27) k16 28 f16, zVl (a0 22) k17 28 f17, zVl (a0 23) k18 28 f18]) hP hK hD hS hA ⟨hx, hb, hml, hown, hts⟩ (zf_X12_goesWell l dC dI h0 a0 (zI (zI (zI (zI b0 6 o_1.1) 7 o_1.2.1) 8 s_14.1) 9 s_14.2) c0 o_16 hqo_16 H.size) (cwV 0 hts gX12_readsStatement_X12_goesWell rfl rfl rfl zhd_X12_goesWell ⟨Nat.le_of_ble_eq_true rfl, Nat.le_of_ble_eq_true rfl⟩) [0] rfl (of_decide_eq_true rfl) [] rfl rfl rfl rfl hl.1 rfl (Nat.le_of_ble_eq_true rfl) dX12_readsStatement_98 ⟨Nat.le_of_ble_eq_true rfl, Nat.le_of_ble_eq_true rfl⟩ [some 0] (of_decide_eq_true rfl) (of_decide_eq_true rfl) rfl rfl rfl (fun H locs hw_19n hP hD hS => ?_)
        obtain ⟨j_20, ej_20, hfn⟩ := zj_g hfn
        have jp_20 : ∀ (s_20 : Int32 × Int32) (H : Heap) (locs : List Loc) (ls : Array Slot), j_20 s_20 = some o → va_P (dC, dI) vwCl [(h0, .inr (12, zO a0 (zI (zI (zI (zI b0 6 o_1.1) 7 o_1.2.1) 8 s_20.1) 9 s_20.2) c0)), zVi (a0 0) k1 1200 f1, zVi (a0 10) k2 71 f2, zVi (a0 12) k3 2 f3, zVi (a0 17) k4 2 f4, zVi (a0 13) k5 8 f5, zVi (a0 18) k6 28 f6, zVi (a0 14) k7 8 f7, zVi (a0 15) k8 8 f8, zVi (a0 16) k9 8 f9, zVi (a0 26) k10 28 f10, zVi (a0 24) k11 2 f11, zVi (a0 19) k12 28 f12, zVi (a0 20) k13 28 f13, zVi (a0 21) k14 28 f14, zVi (a0 25) k15 28 f15, zVi (a0 27) k16 28 f16, zVl (a0 22) k17 28 f17, zVl (a0 23) k18 28 f18] H → va_D A [(h0, .inr (12, zO a0 (zI (zI (zI (zI b0 6 o_1.1) 7 o_1.2.1) 8 s_20.1) 9 s_20.2) c0)), zVi (a0 0) k1 1200 f1, zVi (a0 10) k2 71 f2, zVi (a0 12) k3 2 f3, zVi (a0 17) k4 2 f4, zVi (a0 13) k5 8 f5, zVi (a0 18) k6 28 f6, zVi (a0 14) k7 8 f7, zVi (a0 15) k8 8 f8, zVi (a0 16) k9 8 f9, zVi (a0 26) k10 28 f10, zVi (a0 24) k11 2 f11, zVi (a0 19) k12 28 f12, zVi (a0 20) k13 28 f13, zVi (a0 21) k14 28 f14, zVi (a0 25) k15 28 f15, zVi (a0 27) k16 28 f16, zVl (a0 22) k17 28 f17, zVl (a0 23) k18 28 f18] → va_S A s.heap H locs → lv_has ls 6 [(2, .int s_9), (0, .ref h0)] → W p l e (headSpec wsX12_readsStatement ({ frames := 7, cells := 0, slots := 0, locals := 155 })).room s m ([.ref h0, .int p1] : List Value).toArray below meth c H locs 0 0 Q (F0 m 117 ls []) := by
          intro s_20 H locs ls hfn hP hD hS hl
          have hfn := zj_s ej_20 hfn
          refine lv_aload_n hx hb dX12_readsStatement_117 rfl (lv_at hl 1 rfl) ?_
          obtain ⟨o_21, hqo_21, hfn⟩ := zb_s hfn
          refine zcVb (ci := 12) (rest := []) (pc' := 121) (ws' := [(h0, .inr (12, zO a0 (zI (zI (zI (zI b0 6 o_1.1) 7 o_1.2.1) 8 s_20.1) 9 s_20.2) c0)), zVi (a0 0) k1 1200 f1, zVi (a0 10) k2 71 f2, zVi (a0 12) k3 2 f3, zVi (a0 17) k4 2 f4, zVi (a0 13) k5 8 f5, zVi (a0 18) k6 28 f6, zVi (a0 14) k7 8 f7, zVi (a0 15) k8 8 f8, zVi (a0 16) k9 8 f9, zVi (a0 26) k10 28 f10, zVi (a0 24) k11 2 f11, zVi (a0 19) k12 28 f12, zVi (a0 20) k13 28 f13, zVi (a0 21) k14 28 f14, zVi (a0 25) k15 28 f15, zVi (a0 27) k16 28 f16, zVl (a0 22) k17 28 f17, zVl (a0 23) k18 28 f18]) hP hK hD hS hA ⟨hx, hb, hml, hown, hts⟩ (zf_X12_goesWell l dC dI h0 a0 (zI (zI (zI (zI b0 6 o_1.1) 7 o_1.2.1) 8 s_20.1) 9 s_20.2) c0 o_21 hqo_21 H.size) (cwV 0 hts gX12_readsStatement_X12_goesWell rfl rfl rfl zhd_X12_goesWell ⟨Nat.le_of_ble_eq_true rfl, Nat.le_of_ble_eq_true rfl⟩) [0] rfl (of_decide_eq_true rfl) [] rfl rfl rfl rfl hl.1 rfl (Nat.le_of_ble_eq_true rfl) dX12_readsStatement_118 ⟨Nat.le_of_ble_eq_true rfl, Nat.le_of_ble_eq_true rfl⟩ [some 0] (of_decide_eq_true rfl) (of_decide_eq_true rfl) rfl rfl rfl (fun H locs hw_24n hP hD hS => ?_)
          refine lv_if_ne (tgt := 125) hx hb dX12_readsStatement_121 (of_decide_eq_true rfl) (fun c_25 => ?_) (fun c_25 => ?_)
          · have hfn := (if_neg c_25).symm.trans hfn
            refine lv_iload_n hx hb dX12_readsStatement_125 rfl (lv_at hl 0 rfl) ?_
            by_cases c_26 : s_9 = 0
            · have hfn := (if_pos c_26).symm.trans hfn
              refine W.eq (g2 := F0 m 126 ls [.int 0]) (by rw [c_26]) ?_
              refine lv_tableIn (tgt := 184) (off := 58) hx hb dX12_readsStatement_126 (by decide +kernel) (by decide +kernel) (by decide +kernel) (of_decide_eq_true rfl) ?_
              refine lv_aload_n hx hb dX12_readsStatement_184 rfl (lv_at hl 1 rfl) ?_
              obtain ⟨o_27, hqo_27, hfn⟩ := zb_s hfn
              refine zcVv (ci := 12) (rest := []) (pc' := 188) (ws' := [(h0, .inr (12, zO a0 (zI (zI (zI (zI b0 6 o_27.1) 7 o_27.2.1) 8 o_27.2.2.1) 9 o_27.2.2.2.1) c0)), zVi (a0 0) k1 1200 f1, zVi (a0 10) k2 71 f2, zVi (a0 12) k3 2 o_27.2.2.2.2.1, zVi (a0 17) k4 2 f4, zVi (a0 13) k5 8 o_27.2.2.2.2.2.1, zVi (a0 18) k6 28 f6, zVi (a0 14) k7 8 o_27.2.2.2.2.2.2.1, zVi (a0 15) k8 8 o_27.2.2.2.2.2.2.2.1, zVi (a0 16) k9 8 o_27.2.2.2.2.2.2.2.2, zVi (a0 26) k10 28 f10, zVi (a0 24) k11 2 f11, zVi (a0 19) k12 28 f12, zVi (a0 20) k13 28 f13, zVi (a0 21) k14 28 f14, zVi (a0 25) k15 28 f15, zVi (a0 27) k16 28 f16, zVl (a0 22) k17 28 f17, zVl (a0 23) k18 28 f18]) hP hK hD hS hA ⟨hx, hb, hml, hown, hts⟩ (zf_X12_readsFormat l dC dI h0 a0 (zI (zI (zI (zI b0 6 o_1.1) 7 o_1.2.1) 8 s_20.1) 9 s_20.2) c0 k1 f1 k2 f2 k3 f3 k5 f5 k4 f4 k6 f6 k7 f7 k8 f8 k9 f9 o_27 hqo_27 H.size) (cwV 0 hts gX12_readsStatement_X12_readsFormat rfl rfl rfl zhd_X12_readsFormat ⟨Nat.le_of_ble_eq_true rfl, Nat.le_of_ble_eq_true rfl⟩) [0, 1, 2, 3, 5, 4, 6, 7, 8, 9] rfl (of_decide_eq_true rfl) [0, 1, 2, 4, 3, 5, 6, 7, 8] rfl rfl rfl rfl hl.1 rfl (Nat.le_of_ble_eq_true rfl) dX12_readsStatement_185 ⟨Nat.le_of_ble_eq_true rfl, Nat.le_of_ble_eq_true rfl⟩ [some 0, some 1, some 2, some 3, some 5, some 4, some 6, some 7, some 8, some 9] (of_decide_eq_true rfl) (of_decide_eq_true rfl) rfl rfl rfl (fun H locs hP hD hS => ?_)
              refine lv_goto (tgt := 267) hx hb dX12_readsStatement_188 (of_decide_eq_true rfl) ?_
              refine lv_aload_n hx hb dX12_readsStatement_267 rfl (lv_at hl 1 rfl) ?_
              refine lv_bipush (v := 59) hx hb dX12_readsStatement_268 zcb_59 ?_
              obtain ⟨o_31, hqo_31, hfn⟩ := zb_s hfn
              refine zcVv (ci := 12) (rest := []) (pc' := 273) (ws' := [(h0, .inr (12, zO a0 (zI (zI (zI (zI b0 6 o_31.1) 7 o_27.2.1) 8 o_31.2.1) 9 o_31.2.2) c0)), zVi (a0 0) k1 1200 f1, zVi (a0 10) k2 71 f2, zVi (a0 12) k3 2 o_27.2.2.2.2.1, zVi (a0 17) k4 2 f4, zVi (a0 13) k5 8 o_27.2.2.2.2.2.1, zVi (a0 18) k6 28 f6, zVi (a0 14) k7 8 o_27.2.2.2.2.2.2.1, zVi (a0 15) k8 8 o_27.2.2.2.2.2.2.2.1, zVi (a0 16) k9 8 o_27.2.2.2.2.2.2.2.2, zVi (a0 26) k10 28 f10, zVi (a0 24) k11 2 f11, zVi (a0 19) k12 28 f12, zVi (a0 20) k13 28 f13, zVi (a0 21) k14 28 f14, zVi (a0 25) k15 28 f15, zVi (a0 27) k16 28 f16, zVl (a0 22) k17 28 f17, zVl (a0 23) k18 28 f18]) hP hK hD hS hA ⟨hx, hb, hml, hown, hts⟩ (zf_X12_mark l dC dI h0 59 a0 (zI (zI (zI (zI b0 6 o_27.1) 7 o_27.2.1) 8 o_27.2.2.1) 9 o_27.2.2.2.1) c0 k1 f1 o_31 hqo_31 H.size) (cwV 1 hts gX12_readsStatement_X12_mark rfl rfl rfl zhd_X12_mark ⟨Nat.le_of_ble_eq_true rfl, Nat.le_of_ble_eq_true rfl⟩) [0, 1] rfl (of_decide_eq_true rfl) [0] rfl rfl rfl rfl hl.1 rfl (Nat.le_of_ble_eq_true rfl) dX12_readsStatement_270 ⟨Nat.le_of_ble_eq_true rfl, Nat.le_of_ble_eq_true rfl⟩ [some 0, some 1] (of_decide_eq_true rfl) (of_decide_eq_true rfl) rfl rfl rfl (fun H locs hP hD hS => ?_)
              have ho := Option.some.inj hfn
              subst ho
              exact zrv hx hb hr hK hP hD hS hQ trivial hlocks dX12_readsStatement_273
            have hfn := (if_neg c_26).symm.trans hfn
            have oc_26 := zk_ne rfl (by decide +kernel : (0 : Int32).toInt = 0) c_26
            by_cases c_35 : s_9 = 1
            · have hfn := (if_pos c_35).symm.trans hfn
              refine W.eq (g2 := F0 m 126 ls [.int 1]) (by rw [c_35]) ?_
              refine lv_tableIn (tgt := 263) (off := 137) hx hb dX12_readsStatement_126 (by decide +kernel) (by decide +kernel) (by decide +kernel) (of_decide_eq_true rfl) ?_
              refine lv_aload_n hx hb dX12_readsStatement_263 rfl (lv_at hl 1 rfl) ?_
              obtain ⟨o_36, hqo_36, hfn⟩ := zb_s hfn
              refine zcVv (ci := 12) (rest := []) (pc' := 267) (ws' := [(h0, .inr (12, zO a0 (zI (zI (zI (zI b0 6 o_36.1) 7 o_36.2.1) 8 o_36.2.2.1) 9 o_36.2.2.2.1) c0)), zVi (a0 0) k1 1200 f1, zVi (a0 10) k2 71 f2, zVi (a0 12) k3 2 f3, zVi (a0 17) k4 2 f4, zVi (a0 13) k5 8 f5, zVi (a0 18) k6 28 f6, zVi (a0 14) k7 8 f7, zVi (a0 15) k8 8 f8, zVi (a0 16) k9 8 f9, zVi (a0 26) k10 28 o_36.2.2.2.2, zVi (a0 24) k11 2 f11, zVi (a0 19) k12 28 f12, zVi (a0 20) k13 28 f13, zVi (a0 21) k14 28 f14, zVi (a0 25) k15 28 f15, zVi (a0 27) k16 28 f16, zVl (a0 22) k17 28 f17, zVl (a0 23) k18 28 f18]) hP hK hD hS hA ⟨hx, hb, hml, hown, hts⟩ (zf_X12_readsAnswer l dC dI h0 a0 (zI (zI (zI (zI b0 6 o_1.1) 7 o_1.2.1) 8 s_20.1) 9 s_20.2) c0 k1 f1 k2 f2 k4 f4 k6 f6 k10 f10 o_36 hqo_36 H.size) (cwV 0 hts gX12_readsStatement_X12_readsAnswer rfl rfl rfl zhd_X12_readsAnswer ⟨Nat.le_of_ble_eq_true rfl, Nat.le_of_ble_eq_true rfl⟩) [0, 1, 2, 4, 6, 10] rfl (of_decide_eq_true rfl) [0, 1, 3, 5, 9] rfl rfl rfl rfl hl.1 rfl (Nat.le_of_ble_eq_true rfl) dX12_readsStatement_264 ⟨Nat.le_of_ble_eq_true rfl, Nat.le_of_ble_eq_true rfl⟩ [some 0, some 1, some 2, none, some 3, none, some 4, none, none, none, some 5] (of_decide_eq_true rfl) (of_decide_eq_true rfl) rfl rfl rfl (fun H locs hP hD hS => ?_)
              refine lv_aload_n hx hb dX12_readsStatement_267 rfl (lv_at hl 1 rfl) ?_
              refine lv_bipush (v := 59) hx hb dX12_readsStatement_268 zcb_59 ?_
              obtain ⟨o_40, hqo_40, hfn⟩ := zb_s hfn
              refine zcVv (ci := 12) (rest := []) (pc' := 273) (ws' := [(h0, .inr (12, zO a0 (zI (zI (zI (zI b0 6 o_40.1) 7 o_36.2.1) 8 o_40.2.1) 9 o_40.2.2) c0)), zVi (a0 0) k1 1200 f1, zVi (a0 10) k2 71 f2, zVi (a0 12) k3 2 f3, zVi (a0 17) k4 2 f4, zVi (a0 13) k5 8 f5, zVi (a0 18) k6 28 f6, zVi (a0 14) k7 8 f7, zVi (a0 15) k8 8 f8, zVi (a0 16) k9 8 f9, zVi (a0 26) k10 28 o_36.2.2.2.2, zVi (a0 24) k11 2 f11, zVi (a0 19) k12 28 f12, zVi (a0 20) k13 28 f13, zVi (a0 21) k14 28 f14, zVi (a0 25) k15 28 f15, zVi (a0 27) k16 28 f16, zVl (a0 22) k17 28 f17, zVl (a0 23) k18 28 f18]) hP hK hD hS hA ⟨hx, hb, hml, hown, hts⟩ (zf_X12_mark l dC dI h0 59 a0 (zI (zI (zI (zI b0 6 o_36.1) 7 o_36.2.1) 8 o_36.2.2.1) 9 o_36.2.2.2.1) c0 k1 f1 o_40 hqo_40 H.size) (cwV 1 hts gX12_readsStatement_X12_mark rfl rfl rfl zhd_X12_mark ⟨Nat.le_of_ble_eq_true rfl, Nat.le_of_ble_eq_true rfl⟩) [0, 1] rfl (of_decide_eq_true rfl) [0] rfl rfl rfl rfl hl.1 rfl (Nat.le_of_ble_eq_true rfl) dX12_readsStatement_270 ⟨Nat.le_of_ble_eq_true rfl, Nat.le_of_ble_eq_true rfl⟩ [some 0, some 1] (of_decide_eq_true rfl) (of_decide_eq_true rfl) rfl rfl rfl (fun H locs hP hD hS => ?_)
              have ho := Option.some.inj hfn
              subst ho
              exact zrv hx hb hr hK hP hD hS hQ trivial hlocks dX12_readsStatement_273
            have hfn := (if_neg c_35).symm.trans hfn
            have oc_35 := zk_ne rfl (by decide +kernel : (1 : Int32).toInt = 1) c_35
            by_cases c_44 : s_9 = 2
            · have hfn := (if_pos c_44).symm.trans hfn
              refine W.eq (g2 := F0 m 126 ls [.int 2]) (by rw [c_44]) ?_
              refine lv_tableIn (tgt := 263) (off := 137) hx hb dX12_readsStatement_126 (by decide +kernel) (by decide +kernel) (by decide +kernel) (of_decide_eq_true rfl) ?_
              refine lv_aload_n hx hb dX12_readsStatement_263 rfl (lv_at hl 1 rfl) ?_
              obtain ⟨o_45, hqo_45, hfn⟩ := zb_s hfn
              refine zcVv (ci := 12) (rest := []) (pc' := 267) (ws' := [(h0, .inr (12, zO a0 (zI (zI (zI (zI b0 6 o_45.1) 7 o_45.2.1) 8 o_45.2.2.1) 9 o_45.2.2.2.1) c0)), zVi (a0 0) k1 1200 f1, zVi (a0 10) k2 71 f2, zVi (a0 12) k3 2 f3, zVi (a0 17) k4 2 f4, zVi (a0 13) k5 8 f5, zVi (a0 18) k6 28 f6, zVi (a0 14) k7 8 f7, zVi (a0 15) k8 8 f8, zVi (a0 16) k9 8 f9, zVi (a0 26) k10 28 o_45.2.2.2.2, zVi (a0 24) k11 2 f11, zVi (a0 19) k12 28 f12, zVi (a0 20) k13 28 f13, zVi (a0 21) k14 28 f14, zVi (a0 25) k15 28 f15, zVi (a0 27) k16 28 f16, zVl (a0 22) k17 28 f17, zVl (a0 23) k18 28 f18]) hP hK hD hS hA ⟨hx, hb, hml, hown, hts⟩ (zf_X12_readsAnswer l dC dI h0 a0 (zI (zI (zI (zI b0 6 o_1.1) 7 o_1.2.1) 8 s_20.1) 9 s_20.2) c0 k1 f1 k2 f2 k4 f4 k6 f6 k10 f10 o_45 hqo_45 H.size) (cwV 0 hts gX12_readsStatement_X12_readsAnswer rfl rfl rfl zhd_X12_readsAnswer ⟨Nat.le_of_ble_eq_true rfl, Nat.le_of_ble_eq_true rfl⟩) [0, 1, 2, 4, 6, 10] rfl (of_decide_eq_true rfl) [0, 1, 3, 5, 9] rfl rfl rfl rfl hl.1 rfl (Nat.le_of_ble_eq_true rfl) dX12_readsStatement_264 ⟨Nat.le_of_ble_eq_true rfl, Nat.le_of_ble_eq_true rfl⟩ [some 0, some 1, some 2, none, some 3, none, some 4, none, none, none, some 5] (of_decide_eq_true rfl) (of_decide_eq_true rfl) rfl rfl rfl (fun H locs hP hD hS => ?_)
              refine lv_aload_n hx hb dX12_readsStatement_267 rfl (lv_at hl 1 rfl) ?_
              refine lv_bipush (v := 59) hx hb dX12_readsStatement_268 zcb_59 ?_
              obtain ⟨o_49, hqo_49, hfn⟩ := zb_s hfn
              refine zcVv (ci := 12) (rest := []) (pc' := 273) (ws' := [(h0, .inr (12, zO a0 (zI (zI (zI (zI b0 6 o_49.1) 7 o_45.2.1) 8 o_49.2.1) 9 o_49.2.2) c0)), zVi (a0 0) k1 1200 f1, zVi (a0 10) k2 71 f2, zVi (a0 12) k3 2 f3, zVi (a0 17) k4 2 f4, zVi (a0 13) k5 8 f5, zVi (a0 18) k6 28 f6, zVi (a0 14) k7 8 f7, zVi (a0 15) k8 8 f8, zVi (a0 16) k9 8 f9, zVi (a0 26) k10 28 o_45.2.2.2.2, zVi (a0 24) k11 2 f11, zVi (a0 19) k12 28 f12, zVi (a0 20) k13 28 f13, zVi (a0 21) k14 28 f14, zVi (a0 25) k15 28 f15, zVi (a0 27) k16 28 f16, zVl (a0 22) k17 28 f17, zVl (a0 23) k18 28 f18]) hP hK hD hS hA ⟨hx, hb, hml, hown, hts⟩ (zf_X12_mark l dC dI h0 59 a0 (zI (zI (zI (zI b0 6 o_45.1) 7 o_45.2.1) 8 o_45.2.2.1) 9 o_45.2.2.2.1) c0 k1 f1 o_49 hqo_49 H.size) (cwV 1 hts gX12_readsStatement_X12_mark rfl rfl rfl zhd_X12_mark ⟨Nat.le_of_ble_eq_true rfl, Nat.le_of_ble_eq_true rfl⟩) [0, 1] rfl (of_decide_eq_true rfl) [0] rfl rfl rfl rfl hl.1 rfl (Nat.le_of_ble_eq_true rfl) dX12_readsStatement_270 ⟨Nat.le_of_ble_eq_true rfl, Nat.le_of_ble_eq_true rfl⟩ [some 0, some 1] (of_decide_eq_true rfl) (of_decide_eq_true rfl) rfl rfl rfl (fun H locs hP hD hS => ?_)
              have ho := Option.some.inj hfn
              subst ho
              exact zrv hx hb hr hK hP hD hS hQ trivial hlocks dX12_readsStatement_273
            have hfn := (if_neg c_44).symm.trans hfn
            have oc_44 := zk_ne rfl (by decide +kernel : (2 : Int32).toInt = 2) c_44
            by_cases c_53 : s_9 = 3
            · have hfn := (if_pos c_53).symm.trans hfn
              refine W.eq (g2 := F0 m 126 ls [.int 3]) (by rw [c_53]) ?_
              refine lv_tableIn (tgt := 263) (off := 137) hx hb dX12_readsStatement_126 (by decide +kernel) (by decide +kernel) (by decide +kernel) (of_decide_eq_true rfl) ?_
              refine lv_aload_n hx hb dX12_readsStatement_263 rfl (lv_at hl 1 rfl) ?_
              obtain ⟨o_54, hqo_54, hfn⟩ := zb_s hfn
              refine zcVv (ci := 12) (rest := []) (pc' := 267) (ws' := [(h0, .inr (12, zO a0 (zI (zI (zI (zI b0 6 o_54.1) 7 o_54.2.1) 8 o_54.2.2.1) 9 o_54.2.2.2.1) c0)), zVi (a0 0) k1 1200 f1, zVi (a0 10) k2 71 f2, zVi (a0 12) k3 2 f3, zVi (a0 17) k4 2 f4, zVi (a0 13) k5 8 f5, zVi (a0 18) k6 28 f6, zVi (a0 14) k7 8 f7, zVi (a0 15) k8 8 f8, zVi (a0 16) k9 8 f9, zVi (a0 26) k10 28 o_54.2.2.2.2, zVi (a0 24) k11 2 f11, zVi (a0 19) k12 28 f12, zVi (a0 20) k13 28 f13, zVi (a0 21) k14 28 f14, zVi (a0 25) k15 28 f15, zVi (a0 27) k16 28 f16, zVl (a0 22) k17 28 f17, zVl (a0 23) k18 28 f18]) hP hK hD hS hA ⟨hx, hb, hml, hown, hts⟩ (zf_X12_readsAnswer l dC dI h0 a0 (zI (zI (zI (zI b0 6 o_1.1) 7 o_1.2.1) 8 s_20.1) 9 s_20.2) c0 k1 f1 k2 f2 k4 f4 k6 f6 k10 f10 o_54 hqo_54 H.size) (cwV 0 hts gX12_readsStatement_X12_readsAnswer rfl rfl rfl zhd_X12_readsAnswer ⟨Nat.le_of_ble_eq_true rfl, Nat.le_of_ble_eq_true rfl⟩) [0, 1, 2, 4, 6, 10] rfl (of_decide_eq_true rfl) [0, 1, 3, 5, 9] rfl rfl rfl rfl hl.1 rfl (Nat.le_of_ble_eq_true rfl) dX12_readsStatement_264 ⟨Nat.le_of_ble_eq_true rfl, Nat.le_of_ble_eq_true rfl⟩ [some 0, some 1, some 2, none, some 3, none, some 4, none, none, none, some 5] (of_decide_eq_true rfl) (of_decide_eq_true rfl) rfl rfl rfl (fun H locs hP hD hS => ?_)
              refine lv_aload_n hx hb dX12_readsStatement_267 rfl (lv_at hl 1 rfl) ?_
              refine lv_bipush (v := 59) hx hb dX12_readsStatement_268 zcb_59 ?_
              obtain ⟨o_58, hqo_58, hfn⟩ := zb_s hfn
              refine zcVv (ci := 12) (rest := []) (pc' := 273) (ws' := [(h0, .inr (12, zO a0 (zI (zI (zI (zI b0 6 o_58.1) 7 o_54.2.1) 8 o_58.2.1) 9 o_58.2.2) c0)), zVi (a0 0) k1 1200 f1, zVi (a0 10) k2 71 f2, zVi (a0 12) k3 2 f3, zVi (a0 17) k4 2 f4, zVi (a0 13) k5 8 f5, zVi (a0 18) k6 28 f6, zVi (a0 14) k7 8 f7, zVi (a0 15) k8 8 f8, zVi (a0 16) k9 8 f9, zVi (a0 26) k10 28 o_54.2.2.2.2, zVi (a0 24) k11 2 f11, zVi (a0 19) k12 28 f12, zVi (a0 20) k13 28 f13, zVi (a0 21) k14 28 f14, zVi (a0 25) k15 28 f15, zVi (a0 27) k16 28 f16, zVl (a0 22) k17 28 f17, zVl (a0 23) k18 28 f18]) hP hK hD hS hA ⟨hx, hb, hml, hown, hts⟩ (zf_X12_mark l dC dI h0 59 a0 (zI (zI (zI (zI b0 6 o_54.1) 7 o_54.2.1) 8 o_54.2.2.1) 9 o_54.2.2.2.1) c0 k1 f1 o_58 hqo_58 H.size) (cwV 1 hts gX12_readsStatement_X12_mark rfl rfl rfl zhd_X12_mark ⟨Nat.le_of_ble_eq_true rfl, Nat.le_of_ble_eq_true rfl⟩) [0, 1] rfl (of_decide_eq_true rfl) [0] rfl rfl rfl rfl hl.1 rfl (Nat.le_of_ble_eq_true rfl) dX12_readsStatement_270 ⟨Nat.le_of_ble_eq_true rfl, Nat.le_of_ble_eq_true rfl⟩ [some 0, some 1] (of_decide_eq_true rfl) (of_decide_eq_true rfl) rfl rfl rfl (fun H locs hP hD hS => ?_)
              have ho := Option.some.inj hfn
              subst ho
              exact zrv hx hb hr hK hP hD hS hQ trivial hlocks dX12_readsStatement_273
            have hfn := (if_neg c_53).symm.trans hfn
            have oc_53 := zk_ne rfl (by decide +kernel : (3 : Int32).toInt = 3) c_53
            by_cases c_62 : s_9 = 4
            · have hfn := (if_pos c_62).symm.trans hfn
              refine W.eq (g2 := F0 m 126 ls [.int 4]) (by rw [c_62]) ?_
              refine lv_tableIn (tgt := 191) (off := 65) hx hb dX12_readsStatement_126 (by decide +kernel) (by decide +kernel) (by decide +kernel) (of_decide_eq_true rfl) ?_
              refine lv_aload_n hx hb dX12_readsStatement_191 rfl (lv_at hl 1 rfl) ?_
              refine lv_lconst (v := 0) hx hb dX12_readsStatement_192 (by decide +kernel) ?_
              refine lv_ldc2 (v := 999) hx hb hown (hts (.constantLong RX12 296 (999)) zw_X12_readsStatement_991) dX12_readsStatement_193 ?_
              obtain ⟨o_63, hqo_63, hfn⟩ := zb_s hfn
              refine zcVl (ci := 12) (rest := []) (pc' := 199) (ws' := [(h0, .inr (12, zO a0 (zI (zI (zI (zI b0 6 o_63.2.1) 7 o_63.2.2.1) 8 o_63.2.2.2.1) 9 o_63.2.2.2.2) c0)), zVi (a0 0) k1 1200 f1, zVi (a0 10) k2 71 f2, zVi (a0 12) k3 2 f3, zVi (a0 17) k4 2 f4, zVi (a0 13) k5 8 f5, zVi (a0 18) k6 28 f6, zVi (a0 14) k7 8 f7, zVi (a0 15) k8 8 f8, zVi (a0 16) k9 8 f9, zVi (a0 26) k10 28 f10, zVi (a0 24) k11 2 f11, zVi (a0 19) k12 28 f12, zVi (a0 20) k13 28 f13, zVi (a0 21) k14 28 f14, zVi (a0 25) k15 28 f15, zVi (a0 27) k16 28 f16, zVl (a0 22) k17 28 f17, zVl (a0 23) k18 28 f18]) hP hK hD hS hA ⟨hx, hb, hml, hown, hts⟩ (zf_X12_number l dC dI h0 (0 : Int64) (999 : Int64) a0 (zI (zI (zI (zI b0 6 o_1.1) 7 o_1.2.1) 8 s_20.1) 9 s_20.2) c0 k1 f1 o_63 hqo_63 H.size) (cwV 2 hts gX12_readsStatement_X12_number rfl rfl rfl zhd_X12_number ⟨Nat.le_of_ble_eq_true rfl, Nat.le_of_ble_eq_true rfl⟩) [0, 1] rfl (of_decide_eq_true rfl) [0] rfl rfl rfl rfl hl.1 rfl (Nat.le_of_ble_eq_true rfl) dX12_readsStatement_196 ⟨Nat.le_of_ble_eq_true rfl, Nat.le_of_ble_eq_true rfl⟩ [some 0, some 1] (of_decide_eq_true rfl) (of_decide_eq_true rfl) rfl rfl rfl (fun H locs hP hD hS => ?_)
              refine lv_lstore (lv' := [(4, .long o_63.1), (2, .int s_9), (0, .ref h0)]) hx hb dX12_readsStatement_199 hl (of_decide_eq_true rfl) rfl (fun ls hl => ?_)
              refine lv_aload_n hx hb dX12_readsStatement_201 rfl (lv_at hl 2 rfl) ?_
              refine va_get (D := (dC, dI)) (ci := 12) (v := .ref (a0 24)) (C := RX12) (T := TX12) (N := 67) hx hb hts zn_X12_readsStatement_X12 hown hK hP 0 rfl rfl 24 (of_decide_eq_true rfl) (hts (.fieldLink RX12 84 "ShortEnoughModel" "castCost" "[I") zw_X12_readsStatement_992) (fun _ h9 => h9) rfl dX12_readsStatement_202 ?_
              refine lv_aload_n hx hb dX12_readsStatement_205 rfl (lv_at hl 2 rfl) ?_
              refine va_get (D := (dC, dI)) (ci := 12) (v := .int (b0 11)) (C := RX12) (T := TX12) (N := 67) hx hb hts zn_X12_readsStatement_X12 hown hK hP 0 rfl rfl 11 (of_decide_eq_true rfl) (hts (.fieldLink RX12 44 "ShortEnoughModel" "in" "I") zw_X12_readsStatement_989) (fun _ h9 => h9) rfl dX12_readsStatement_206 ?_
              refine lv_aload_n hx hb dX12_readsStatement_209 rfl (lv_at hl 2 rfl) ?_
              obtain ⟨o_67, hqo_67, hfn⟩ := zb_s hfn
              refine zcVb (ci := 12) (rest := [.int (b0 11), .ref (a0 24)]) (pc' := 213) (ws' := [(h0, .inr (12, zO a0 (zI (zI (zI (zI b0 6 o_63.2.1) 7 o_63.2.2.1) 8 o_63.2.2.2.1) 9 o_63.2.2.2.2) c0)), zVi (a0 0) k1 1200 f1, zVi (a0 10) k2 71 f2, zVi (a0 12) k3 2 f3, zVi (a0 17) k4 2 f4, zVi (a0 13) k5 8 f5, zVi (a0 18) k6 28 f6, zVi (a0 14) k7 8 f7, zVi (a0 15) k8 8 f8, zVi (a0 16) k9 8 f9, zVi (a0 26) k10 28 f10, zVi (a0 24) k11 2 f11, zVi (a0 19) k12 28 f12, zVi (a0 20) k13 28 f13, zVi (a0 21) k14 28 f14, zVi (a0 25) k15 28 f15, zVi (a0 27) k16 28 f16, zVl (a0 22) k17 28 f17, zVl (a0 23) k18 28 f18]) hP hK hD hS hA ⟨hx, hb, hml, hown, hts⟩ (zf_X12_goesWell l dC dI h0 a0 (zI (zI (zI (zI b0 6 o_63.2.1) 7 o_63.2.2.1) 8 o_63.2.2.2.1) 9 o_63.2.2.2.2) c0 o_67 hqo_67 H.size) (cwV 0 hts gX12_readsStatement_X12_goesWell rfl rfl rfl zhd_X12_goesWell ⟨Nat.le_of_ble_eq_true rfl, Nat.le_of_ble_eq_true rfl⟩) [0] rfl (of_decide_eq_true rfl) [] rfl rfl rfl rfl hl.1 rfl (Nat.le_of_ble_eq_true rfl) dX12_readsStatement_210 ⟨Nat.le_of_ble_eq_true rfl, Nat.le_of_ble_eq_true rfl⟩ [some 0] (of_decide_eq_true rfl) (of_decide_eq_true rfl) rfl rfl rfl (fun H locs hw_70n hP hD hS => ?_)
              refine lv_if_eq (tgt := 222) hx hb dX12_readsStatement_213 (of_decide_eq_true rfl) (fun c_71 => ?_) (fun c_71 => ?_)
              · have hfn := (if_pos c_71).symm.trans hfn
                refine lv_aload_n hx hb dX12_readsStatement_222 rfl (lv_at hl 2 rfl) ?_
                refine va_get (D := (dC, dI)) (ci := 12) (v := .ref (a0 24)) (C := RX12) (T := TX12) (N := 67) hx hb hts zn_X12_readsStatement_X12 hown hK hP 0 rfl rfl 24 (of_decide_eq_true rfl) (hts (.fieldLink RX12 84 "ShortEnoughModel" "castCost" "[I") zw_X12_readsStatement_992) (fun _ h9 => h9) rfl dX12_readsStatement_223 ?_
                refine lv_aload_n hx hb dX12_readsStatement_226 rfl (lv_at hl 2 rfl) ?_
                refine va_get (D := (dC, dI)) (ci := 12) (v := .int (b0 11)) (C := RX12) (T := TX12) (N := 67) hx hb hts zn_X12_readsStatement_X12 hown hK hP 0 rfl rfl 11 (of_decide_eq_true rfl) (hts (.fieldLink RX12 44 "ShortEnoughModel" "in" "I") zw_X12_readsStatement_989) (fun _ h9 => h9) rfl dX12_readsStatement_227 ?_
                obtain ⟨h_72, hfn⟩ := zg_s hfn
                refine va_iald hx hb hK hP 11 10 rfl rfl h_72 dX12_readsStatement_230 ?_
                refine va_iast hx hb hK hP hD hS 11 10 rfl rfl h_72 dX12_readsStatement_231 (fun H locs hP hD hS => ?_)
                have hP : va_P (dC, dI) vwCl [(h0, .inr (12, zO a0 (zI (zI (zI (zI b0 6 o_63.2.1) 7 o_63.2.2.1) 8 o_63.2.2.2.1) 9 o_63.2.2.2.2) c0)), zVi (a0 0) k1 1200 f1, zVi (a0 10) k2 71 f2, zVi (a0 12) k3 2 f3, zVi (a0 17) k4 2 f4, zVi (a0 13) k5 8 f5, zVi (a0 18) k6 28 f6, zVi (a0 14) k7 8 f7, zVi (a0 15) k8 8 f8, zVi (a0 16) k9 8 f9, zVi (a0 26) k10 28 f10, zVi (a0 24) k11 2 (upd f11 (b0 11).toNatClampNeg (f11 (b0 11).toNatClampNeg)), zVi (a0 19) k12 28 f12, zVi (a0 20) k13 28 f13, zVi (a0 21) k14 28 f14, zVi (a0 25) k15 28 f15, zVi (a0 27) k16 28 f16, zVl (a0 22) k17 28 f17, zVl (a0 23) k18 28 f18] H := hP
                have hD := zDW hD hP rfl
                refine lv_goto (tgt := 267) hx hb dX12_readsStatement_232 (of_decide_eq_true rfl) ?_
                refine lv_aload_n hx hb dX12_readsStatement_267 rfl (lv_at hl 2 rfl) ?_
                refine lv_bipush (v := 59) hx hb dX12_readsStatement_268 zcb_59 ?_
                obtain ⟨o_73, hqo_73, hfn⟩ := zb_s hfn
                refine zcVv (ci := 12) (rest := []) (pc' := 273) (ws' := [(h0, .inr (12, zO a0 (zI (zI (zI (zI b0 6 o_73.1) 7 o_63.2.2.1) 8 o_73.2.1) 9 o_73.2.2) c0)), zVi (a0 0) k1 1200 f1, zVi (a0 10) k2 71 f2, zVi (a0 12) k3 2 f3, zVi (a0 17) k4 2 f4, zVi (a0 13) k5 8 f5, zVi (a0 18) k6 28 f6, zVi (a0 14) k7 8 f7, zVi (a0 15) k8 8 f8, zVi (a0 16) k9 8 f9, zVi (a0 26) k10 28 f10, zVi (a0 24) k11 2 (upd f11 (b0 11).toNatClampNeg (f11 (b0 11).toNatClampNeg)), zVi (a0 19) k12 28 f12, zVi (a0 20) k13 28 f13, zVi (a0 21) k14 28 f14, zVi (a0 25) k15 28 f15, zVi (a0 27) k16 28 f16, zVl (a0 22) k17 28 f17, zVl (a0 23) k18 28 f18]) hP hK hD hS hA ⟨hx, hb, hml, hown, hts⟩ (zf_X12_mark l dC dI h0 59 a0 (zI (zI (zI (zI b0 6 o_63.2.1) 7 o_63.2.2.1) 8 o_63.2.2.2.1) 9 o_63.2.2.2.2) c0 k1 f1 o_73 hqo_73 H.size) (cwV 1 hts gX12_readsStatement_X12_mark rfl rfl rfl zhd_X12_mark ⟨Nat.le_of_ble_eq_true rfl, Nat.le_of_ble_eq_true rfl⟩) [0, 1] rfl (of_decide_eq_true rfl) [0] rfl rfl rfl rfl hl.1 rfl (Nat.le_of_ble_eq_true rfl) dX12_readsStatement_270 ⟨Nat.le_of_ble_eq_true rfl, Nat.le_of_ble_eq_true rfl⟩ [some 0, some 1] (of_decide_eq_true rfl) (of_decide_eq_true rfl) rfl rfl rfl (fun H locs hP hD hS => ?_)
                have ho := Option.some.inj hfn
                subst ho
                exact zrv hx hb hr hK hP hD hS hQ trivial hlocks dX12_readsStatement_273
              have hfn := (if_neg c_71).symm.trans hfn
              refine lv_lload hx hb dX12_readsStatement_216 (lv_at hl 0 rfl) ?_
              refine lv_l2i (v := o_63.1.toInt32) hx hb dX12_readsStatement_218 rfl ?_
              refine lv_goto (tgt := 231) hx hb dX12_readsStatement_219 (of_decide_eq_true rfl) ?_
              obtain ⟨h_77, hfn⟩ := zg_s hfn
              refine va_iast hx hb hK hP hD hS 11 10 rfl rfl h_77 dX12_readsStatement_231 (fun H locs hP hD hS => ?_)
              have hP : va_P (dC, dI) vwCl [(h0, .inr (12, zO a0 (zI (zI (zI (zI b0 6 o_63.2.1) 7 o_63.2.2.1) 8 o_63.2.2.2.1) 9 o_63.2.2.2.2) c0)), zVi (a0 0) k1 1200 f1, zVi (a0 10) k2 71 f2, zVi (a0 12) k3 2 f3, zVi (a0 17) k4 2 f4, zVi (a0 13) k5 8 f5, zVi (a0 18) k6 28 f6, zVi (a0 14) k7 8 f7, zVi (a0 15) k8 8 f8, zVi (a0 16) k9 8 f9, zVi (a0 26) k10 28 f10, zVi (a0 24) k11 2 (upd f11 (b0 11).toNatClampNeg o_63.1.toInt32), zVi (a0 19) k12 28 f12, zVi (a0 20) k13 28 f13, zVi (a0 21) k14 28 f14, zVi (a0 25) k15 28 f15, zVi (a0 27) k16 28 f16, zVl (a0 22) k17 28 f17, zVl (a0 23) k18 28 f18] H := hP
              have hD := zDW hD hP rfl
              refine lv_goto (tgt := 267) hx hb dX12_readsStatement_232 (of_decide_eq_true rfl) ?_
              refine lv_aload_n hx hb dX12_readsStatement_267 rfl (lv_at hl 2 rfl) ?_
              refine lv_bipush (v := 59) hx hb dX12_readsStatement_268 zcb_59 ?_
              obtain ⟨o_78, hqo_78, hfn⟩ := zb_s hfn
              refine zcVv (ci := 12) (rest := []) (pc' := 273) (ws' := [(h0, .inr (12, zO a0 (zI (zI (zI (zI b0 6 o_78.1) 7 o_63.2.2.1) 8 o_78.2.1) 9 o_78.2.2) c0)), zVi (a0 0) k1 1200 f1, zVi (a0 10) k2 71 f2, zVi (a0 12) k3 2 f3, zVi (a0 17) k4 2 f4, zVi (a0 13) k5 8 f5, zVi (a0 18) k6 28 f6, zVi (a0 14) k7 8 f7, zVi (a0 15) k8 8 f8, zVi (a0 16) k9 8 f9, zVi (a0 26) k10 28 f10, zVi (a0 24) k11 2 (upd f11 (b0 11).toNatClampNeg o_63.1.toInt32), zVi (a0 19) k12 28 f12, zVi (a0 20) k13 28 f13, zVi (a0 21) k14 28 f14, zVi (a0 25) k15 28 f15, zVi (a0 27) k16 28 f16, zVl (a0 22) k17 28 f17, zVl (a0 23) k18 28 f18]) hP hK hD hS hA ⟨hx, hb, hml, hown, hts⟩ (zf_X12_mark l dC dI h0 59 a0 (zI (zI (zI (zI b0 6 o_63.2.1) 7 o_63.2.2.1) 8 o_63.2.2.2.1) 9 o_63.2.2.2.2) c0 k1 f1 o_78 hqo_78 H.size) (cwV 1 hts gX12_readsStatement_X12_mark rfl rfl rfl zhd_X12_mark ⟨Nat.le_of_ble_eq_true rfl, Nat.le_of_ble_eq_true rfl⟩) [0, 1] rfl (of_decide_eq_true rfl) [0] rfl rfl rfl rfl hl.1 rfl (Nat.le_of_ble_eq_true rfl) dX12_readsStatement_270 ⟨Nat.le_of_ble_eq_true rfl, Nat.le_of_ble_eq_true rfl⟩ [some 0, some 1] (of_decide_eq_true rfl) (of_decide_eq_true rfl) rfl rfl rfl (fun H locs hP hD hS => ?_)
              have ho := Option.some.inj hfn
              subst ho
              exact zrv hx hb hr hK hP hD hS hQ trivial hlocks dX12_readsStatement_273
            have hfn := (if_neg c_62).symm.trans hfn
            have oc_62 := zk_ne rfl (by decide +kernel : (4 : Int32).toInt = 4) c_62
            by_cases c_82 : s_9 = 5
            · have hfn := (if_pos c_82).symm.trans hfn
              refine W.eq (g2 := F0 m 126 ls [.int 5]) (by rw [c_82]) ?_
              refine lv_tableIn (tgt := 235) (off := 109) hx hb dX12_readsStatement_126 (by decide +kernel) (by decide +kernel) (by decide +kernel) (of_decide_eq_true rfl) ?_
              refine lv_aload_n hx hb dX12_readsStatement_235 rfl (lv_at hl 1 rfl) ?_
              obtain ⟨o_83, hqo_83, hfn⟩ := zb_s hfn
              refine zcVv (ci := 12) (rest := []) (pc' := 239) (ws' := [(h0, .inr (12, zO a0 (zI (zI (zI (zI b0 6 o_83.1) 7 o_83.2.1) 8 o_83.2.2.1) 9 o_83.2.2.2.1) c0)), zVi (a0 0) k1 1200 f1, zVi (a0 10) k2 71 f2, zVi (a0 12) k3 2 f3, zVi (a0 17) k4 2 o_83.2.2.2.2.1, zVi (a0 13) k5 8 f5, zVi (a0 18) k6 28 o_83.2.2.2.2.2.1, zVi (a0 14) k7 8 f7, zVi (a0 15) k8 8 f8, zVi (a0 16) k9 8 f9, zVi (a0 26) k10 28 o_83.2.2.2.2.2.2.2.2.2.2.1, zVi (a0 24) k11 2 f11, zVi (a0 19) k12 28 o_83.2.2.2.2.2.2.1, zVi (a0 20) k13 28 o_83.2.2.2.2.2.2.2.1, zVi (a0 21) k14 28 o_83.2.2.2.2.2.2.2.2.1, zVi (a0 25) k15 28 o_83.2.2.2.2.2.2.2.2.2.1, zVi (a0 27) k16 28 o_83.2.2.2.2.2.2.2.2.2.2.2.1, zVl (a0 22) k17 28 o_83.2.2.2.2.2.2.2.2.2.2.2.2.1, zVl (a0 23) k18 28 o_83.2.2.2.2.2.2.2.2.2.2.2.2.2]) hP hK hD hS hA ⟨hx, hb, hml, hown, hts⟩ (zf_X12_readsInput l dC dI h0 a0 (zI (zI (zI (zI b0 6 o_1.1) 7 o_1.2.1) 8 s_20.1) 9 s_20.2) c0 k1 f1 k2 f2 k3 f3 k5 f5 k4 f4 k6 f6 k12 f12 k13 f13 k14 f14 k15 f15 k10 f10 k16 f16 k17 f17 k18 f18 o_83 hqo_83 H.size) (cwV 0 hts gX12_readsStatement_X12_readsInput rfl rfl rfl zhd_X12_readsInput ⟨Nat.le_of_ble_eq_true rfl, Nat.le_of_ble_eq_true rfl⟩) [0, 1, 2, 3, 5, 4, 6, 12, 13, 14, 15, 10, 16, 17, 18] rfl (of_decide_eq_true rfl) [0, 1, 2, 4, 3, 5, 11, 12, 13, 14, 9, 15, 16, 17] rfl rfl rfl rfl hl.1 rfl (Nat.le_of_ble_eq_true rfl) dX12_readsStatement_236 ⟨Nat.le_of_ble_eq_true rfl, Nat.le_of_ble_eq_true rfl⟩ [some 0, some 1, some 2, some 3, some 5, some 4, some 6, none, none, none, some 11, none, some 7, some 8, some 9, some 10, some 12, some 13, some 14] (of_decide_eq_true rfl) (of_decide_eq_true rfl) rfl rfl rfl (fun H locs hP hD hS => ?_)
              refine lv_goto (tgt := 267) hx hb dX12_readsStatement_239 (of_decide_eq_true rfl) ?_
              refine lv_aload_n hx hb dX12_readsStatement_267 rfl (lv_at hl 1 rfl) ?_
              refine lv_bipush (v := 59) hx hb dX12_readsStatement_268 zcb_59 ?_
              obtain ⟨o_87, hqo_87, hfn⟩ := zb_s hfn
              refine zcVv (ci := 12) (rest := []) (pc' := 273) (ws' := [(h0, .inr (12, zO a0 (zI (zI (zI (zI b0 6 o_87.1) 7 o_83.2.1) 8 o_87.2.1) 9 o_87.2.2) c0)), zVi (a0 0) k1 1200 f1, zVi (a0 10) k2 71 f2, zVi (a0 12) k3 2 f3, zVi (a0 17) k4 2 o_83.2.2.2.2.1, zVi (a0 13) k5 8 f5, zVi (a0 18) k6 28 o_83.2.2.2.2.2.1, zVi (a0 14) k7 8 f7, zVi (a0 15) k8 8 f8, zVi (a0 16) k9 8 f9, zVi (a0 26) k10 28 o_83.2.2.2.2.2.2.2.2.2.2.1, zVi (a0 24) k11 2 f11, zVi (a0 19) k12 28 o_83.2.2.2.2.2.2.1, zVi (a0 20) k13 28 o_83.2.2.2.2.2.2.2.1, zVi (a0 21) k14 28 o_83.2.2.2.2.2.2.2.2.1, zVi (a0 25) k15 28 o_83.2.2.2.2.2.2.2.2.2.1, zVi (a0 27) k16 28 o_83.2.2.2.2.2.2.2.2.2.2.2.1, zVl (a0 22) k17 28 o_83.2.2.2.2.2.2.2.2.2.2.2.2.1, zVl (a0 23) k18 28 o_83.2.2.2.2.2.2.2.2.2.2.2.2.2]) hP hK hD hS hA ⟨hx, hb, hml, hown, hts⟩ (zf_X12_mark l dC dI h0 59 a0 (zI (zI (zI (zI b0 6 o_83.1) 7 o_83.2.1) 8 o_83.2.2.1) 9 o_83.2.2.2.1) c0 k1 f1 o_87 hqo_87 H.size) (cwV 1 hts gX12_readsStatement_X12_mark rfl rfl rfl zhd_X12_mark ⟨Nat.le_of_ble_eq_true rfl, Nat.le_of_ble_eq_true rfl⟩) [0, 1] rfl (of_decide_eq_true rfl) [0] rfl rfl rfl rfl hl.1 rfl (Nat.le_of_ble_eq_true rfl) dX12_readsStatement_270 ⟨Nat.le_of_ble_eq_true rfl, Nat.le_of_ble_eq_true rfl⟩ [some 0, some 1] (of_decide_eq_true rfl) (of_decide_eq_true rfl) rfl rfl rfl (fun H locs hP hD hS => ?_)
              have ho := Option.some.inj hfn
              subst ho
              exact zrv hx hb hr hK hP hD hS hQ trivial hlocks dX12_readsStatement_273
            have hfn := (if_neg c_82).symm.trans hfn
            have oc_82 := zk_ne rfl (by decide +kernel : (5 : Int32).toInt = 5) c_82
            by_cases c_91 : s_9 = 6
            · have hfn := (if_pos c_91).symm.trans hfn
              refine W.eq (g2 := F0 m 126 ls [.int 6]) (by rw [c_91]) ?_
              refine lv_tableIn (tgt := 242) (off := 116) hx hb dX12_readsStatement_126 (by decide +kernel) (by decide +kernel) (by decide +kernel) (of_decide_eq_true rfl) ?_
              refine lv_aload_n hx hb dX12_readsStatement_242 rfl (lv_at hl 1 rfl) ?_
              obtain ⟨o_92, hqo_92, hfn⟩ := zb_s hfn
              refine zcVv (ci := 12) (rest := []) (pc' := 246) (ws' := [(h0, .inr (12, zO a0 (zI (zI (zI (zI b0 6 o_92.2.1) 7 o_92.2.2.1) 8 o_92.2.2.2.1) 9 o_92.2.2.2.2.1) (zJ c0 28 o_92.1))), zVi (a0 0) k1 1200 f1, zVi (a0 10) k2 71 f2, zVi (a0 12) k3 2 f3, zVi (a0 17) k4 2 o_92.2.2.2.2.2.1, zVi (a0 13) k5 8 f5, zVi (a0 18) k6 28 o_92.2.2.2.2.2.2.1, zVi (a0 14) k7 8 f7, zVi (a0 15) k8 8 f8, zVi (a0 16) k9 8 f9, zVi (a0 26) k10 28 o_92.2.2.2.2.2.2.2.2.2.2.2.1, zVi (a0 24) k11 2 f11, zVi (a0 19) k12 28 o_92.2.2.2.2.2.2.2.1, zVi (a0 20) k13 28 o_92.2.2.2.2.2.2.2.2.1, zVi (a0 21) k14 28 o_92.2.2.2.2.2.2.2.2.2.1, zVi (a0 25) k15 28 o_92.2.2.2.2.2.2.2.2.2.2.1, zVi (a0 27) k16 28 o_92.2.2.2.2.2.2.2.2.2.2.2.2.1, zVl (a0 22) k17 28 o_92.2.2.2.2.2.2.2.2.2.2.2.2.2.1, zVl (a0 23) k18 28 o_92.2.2.2.2.2.2.2.2.2.2.2.2.2.2]) hP hK hD hS hA ⟨hx, hb, hml, hown, hts⟩ (zf_X12_readsLet l dC dI h0 a0 (zI (zI (zI (zI b0 6 o_1.1) 7 o_1.2.1) 8 s_20.1) 9 s_20.2) c0 k1 f1 k2 f2 k3 f3 k5 f5 k4 f4 k6 f6 k12 f12 k13 f13 k14 f14 k15 f15 k10 f10 k16 f16 k17 f17 k18 f18 o_92 hqo_92 H.size) (cwV 0 hts gX12_readsStatement_X12_readsLet rfl rfl rfl zhd_X12_readsLet ⟨Nat.le_of_ble_eq_true rfl, Nat.le_of_ble_eq_true rfl⟩) [0, 1, 2, 3, 5, 4, 6, 12, 13, 14, 15, 10, 16, 17, 18] rfl (of_decide_eq_true rfl) [0, 1, 2, 4, 3, 5, 11, 12, 13, 14, 9, 15, 16, 17] rfl rfl rfl rfl hl.1 rfl (Nat.le_of_ble_eq_true rfl) dX12_readsStatement_243 ⟨Nat.le_of_ble_eq_true rfl, Nat.le_of_ble_eq_true rfl⟩ [some 0, some 1, some 2, some 3, some 5, some 4, some 6, none, none, none, some 11, none, some 7, some 8, some 9, some 10, some 12, some 13, some 14] (of_decide_eq_true rfl) (of_decide_eq_true rfl) rfl rfl rfl (fun H locs hP hD hS => ?_)
              refine lv_goto (tgt := 267) hx hb dX12_readsStatement_246 (of_decide_eq_true rfl) ?_
              refine lv_aload_n hx hb dX12_readsStatement_267 rfl (lv_at hl 1 rfl) ?_
              refine lv_bipush (v := 59) hx hb dX12_readsStatement_268 zcb_59 ?_
              obtain ⟨o_96, hqo_96, hfn⟩ := zb_s hfn
              refine zcVv (ci := 12) (rest := []) (pc' := 273) (ws' := [(h0, .inr (12, zO a0 (zI (zI (zI (zI b0 6 o_96.1) 7 o_92.2.2.1) 8 o_96.2.1) 9 o_96.2.2) (zJ c0 28 o_92.1))), zVi (a0 0) k1 1200 f1, zVi (a0 10) k2 71 f2, zVi (a0 12) k3 2 f3, zVi (a0 17) k4 2 o_92.2.2.2.2.2.1, zVi (a0 13) k5 8 f5, zVi (a0 18) k6 28 o_92.2.2.2.2.2.2.1, zVi (a0 14) k7 8 f7, zVi (a0 15) k8 8 f8, zVi (a0 16) k9 8 f9, zVi (a0 26) k10 28 o_92.2.2.2.2.2.2.2.2.2.2.2.1, zVi (a0 24) k11 2 f11, zVi (a0 19) k12 28 o_92.2.2.2.2.2.2.2.1, zVi (a0 20) k13 28 o_92.2.2.2.2.2.2.2.2.1, zVi (a0 21) k14 28 o_92.2.2.2.2.2.2.2.2.2.1, zVi (a0 25) k15 28 o_92.2.2.2.2.2.2.2.2.2.2.1, zVi (a0 27) k16 28 o_92.2.2.2.2.2.2.2.2.2.2.2.2.1, zVl (a0 22) k17 28 o_92.2.2.2.2.2.2.2.2.2.2.2.2.2.1, zVl (a0 23) k18 28 o_92.2.2.2.2.2.2.2.2.2.2.2.2.2.2]) hP hK hD hS hA ⟨hx, hb, hml, hown, hts⟩ (zf_X12_mark l dC dI h0 59 a0 (zI (zI (zI (zI b0 6 o_92.2.1) 7 o_92.2.2.1) 8 o_92.2.2.2.1) 9 o_92.2.2.2.2.1) (zJ c0 28 o_92.1) k1 f1 o_96 hqo_96 H.size) (cwV 1 hts gX12_readsStatement_X12_mark rfl rfl rfl zhd_X12_mark ⟨Nat.le_of_ble_eq_true rfl, Nat.le_of_ble_eq_true rfl⟩) [0, 1] rfl (of_decide_eq_true rfl) [0] rfl rfl rfl rfl hl.1 rfl (Nat.le_of_ble_eq_true rfl) dX12_readsStatement_270 ⟨Nat.le_of_ble_eq_true rfl, Nat.le_of_ble_eq_true rfl⟩ [some 0, some 1] (of_decide_eq_true rfl) (of_decide_eq_true rfl) rfl rfl rfl (fun H locs hP hD hS => ?_)
              have ho := Option.some.inj hfn
              subst ho
              exact zrv hx hb hr hK hP hD hS hQ trivial hlocks dX12_readsStatement_273
            have hfn := (if_neg c_91).symm.trans hfn
            have oc_91 := zk_ne rfl (by decide +kernel : (6 : Int32).toInt = 6) c_91
            by_cases c_100 : s_9 = 7
            · have hfn := (if_pos c_100).symm.trans hfn
              refine W.eq (g2 := F0 m 126 ls [.int 7]) (by rw [c_100]) ?_
              refine lv_tableIn (tgt := 263) (off := 137) hx hb dX12_readsStatement_126 (by decide +kernel) (by decide +kernel) (by decide +kernel) (of_decide_eq_true rfl) ?_
              refine lv_aload_n hx hb dX12_readsStatement_263 rfl (lv_at hl 1 rfl) ?_
              obtain ⟨o_101, hqo_101, hfn⟩ := zb_s hfn
              refine zcVv (ci := 12) (rest := []) (pc' := 267) (ws' := [(h0, .inr (12, zO a0 (zI (zI (zI (zI b0 6 o_101.1) 7 o_101.2.1) 8 o_101.2.2.1) 9 o_101.2.2.2.1) c0)), zVi (a0 0) k1 1200 f1, zVi (a0 10) k2 71 f2, zVi (a0 12) k3 2 f3, zVi (a0 17) k4 2 f4, zVi (a0 13) k5 8 f5, zVi (a0 18) k6 28 f6, zVi (a0 14) k7 8 f7, zVi (a0 15) k8 8 f8, zVi (a0 16) k9 8 f9, zVi (a0 26) k10 28 o_101.2.2.2.2, zVi (a0 24) k11 2 f11, zVi (a0 19) k12 28 f12, zVi (a0 20) k13 28 f13, zVi (a0 21) k14 28 f14, zVi (a0 25) k15 28 f15, zVi (a0 27) k16 28 f16, zVl (a0 22) k17 28 f17, zVl (a0 23) k18 28 f18]) hP hK hD hS hA ⟨hx, hb, hml, hown, hts⟩ (zf_X12_readsAnswer l dC dI h0 a0 (zI (zI (zI (zI b0 6 o_1.1) 7 o_1.2.1) 8 s_20.1) 9 s_20.2) c0 k1 f1 k2 f2 k4 f4 k6 f6 k10 f10 o_101 hqo_101 H.size) (cwV 0 hts gX12_readsStatement_X12_readsAnswer rfl rfl rfl zhd_X12_readsAnswer ⟨Nat.le_of_ble_eq_true rfl, Nat.le_of_ble_eq_true rfl⟩) [0, 1, 2, 4, 6, 10] rfl (of_decide_eq_true rfl) [0, 1, 3, 5, 9] rfl rfl rfl rfl hl.1 rfl (Nat.le_of_ble_eq_true rfl) dX12_readsStatement_264 ⟨Nat.le_of_ble_eq_true rfl, Nat.le_of_ble_eq_true rfl⟩ [some 0, some 1, some 2, none, some 3, none, some 4, none, none, none, some 5] (of_decide_eq_true rfl) (of_decide_eq_true rfl) rfl rfl rfl (fun H locs hP hD hS => ?_)
              refine lv_aload_n hx hb dX12_readsStatement_267 rfl (lv_at hl 1 rfl) ?_
              refine lv_bipush (v := 59) hx hb dX12_readsStatement_268 zcb_59 ?_
              obtain ⟨o_105, hqo_105, hfn⟩ := zb_s hfn
              refine zcVv (ci := 12) (rest := []) (pc' := 273) (ws' := [(h0, .inr (12, zO a0 (zI (zI (zI (zI b0 6 o_105.1) 7 o_101.2.1) 8 o_105.2.1) 9 o_105.2.2) c0)), zVi (a0 0) k1 1200 f1, zVi (a0 10) k2 71 f2, zVi (a0 12) k3 2 f3, zVi (a0 17) k4 2 f4, zVi (a0 13) k5 8 f5, zVi (a0 18) k6 28 f6, zVi (a0 14) k7 8 f7, zVi (a0 15) k8 8 f8, zVi (a0 16) k9 8 f9, zVi (a0 26) k10 28 o_101.2.2.2.2, zVi (a0 24) k11 2 f11, zVi (a0 19) k12 28 f12, zVi (a0 20) k13 28 f13, zVi (a0 21) k14 28 f14, zVi (a0 25) k15 28 f15, zVi (a0 27) k16 28 f16, zVl (a0 22) k17 28 f17, zVl (a0 23) k18 28 f18]) hP hK hD hS hA ⟨hx, hb, hml, hown, hts⟩ (zf_X12_mark l dC dI h0 59 a0 (zI (zI (zI (zI b0 6 o_101.1) 7 o_101.2.1) 8 o_101.2.2.1) 9 o_101.2.2.2.1) c0 k1 f1 o_105 hqo_105 H.size) (cwV 1 hts gX12_readsStatement_X12_mark rfl rfl rfl zhd_X12_mark ⟨Nat.le_of_ble_eq_true rfl, Nat.le_of_ble_eq_true rfl⟩) [0, 1] rfl (of_decide_eq_true rfl) [0] rfl rfl rfl rfl hl.1 rfl (Nat.le_of_ble_eq_true rfl) dX12_readsStatement_270 ⟨Nat.le_of_ble_eq_true rfl, Nat.le_of_ble_eq_true rfl⟩ [some 0, some 1] (of_decide_eq_true rfl) (of_decide_eq_true rfl) rfl rfl rfl (fun H locs hP hD hS => ?_)
              have ho := Option.some.inj hfn
              subst ho
              exact zrv hx hb hr hK hP hD hS hQ trivial hlocks dX12_readsStatement_273
            have hfn := (if_neg c_100).symm.trans hfn
            have oc_100 := zk_ne rfl (by decide +kernel : (7 : Int32).toInt = 7) c_100
            by_cases c_109 : s_9 = 8
            · have hfn := (if_pos c_109).symm.trans hfn
              refine W.eq (g2 := F0 m 126 ls [.int 8]) (by rw [c_109]) ?_
              refine lv_tableIn (tgt := 263) (off := 137) hx hb dX12_readsStatement_126 (by decide +kernel) (by decide +kernel) (by decide +kernel) (of_decide_eq_true rfl) ?_
              refine lv_aload_n hx hb dX12_readsStatement_263 rfl (lv_at hl 1 rfl) ?_
              obtain ⟨o_110, hqo_110, hfn⟩ := zb_s hfn
              refine zcVv (ci := 12) (rest := []) (pc' := 267) (ws' := [(h0, .inr (12, zO a0 (zI (zI (zI (zI b0 6 o_110.1) 7 o_110.2.1) 8 o_110.2.2.1) 9 o_110.2.2.2.1) c0)), zVi (a0 0) k1 1200 f1, zVi (a0 10) k2 71 f2, zVi (a0 12) k3 2 f3, zVi (a0 17) k4 2 f4, zVi (a0 13) k5 8 f5, zVi (a0 18) k6 28 f6, zVi (a0 14) k7 8 f7, zVi (a0 15) k8 8 f8, zVi (a0 16) k9 8 f9, zVi (a0 26) k10 28 o_110.2.2.2.2, zVi (a0 24) k11 2 f11, zVi (a0 19) k12 28 f12, zVi (a0 20) k13 28 f13, zVi (a0 21) k14 28 f14, zVi (a0 25) k15 28 f15, zVi (a0 27) k16 28 f16, zVl (a0 22) k17 28 f17, zVl (a0 23) k18 28 f18]) hP hK hD hS hA ⟨hx, hb, hml, hown, hts⟩ (zf_X12_readsAnswer l dC dI h0 a0 (zI (zI (zI (zI b0 6 o_1.1) 7 o_1.2.1) 8 s_20.1) 9 s_20.2) c0 k1 f1 k2 f2 k4 f4 k6 f6 k10 f10 o_110 hqo_110 H.size) (cwV 0 hts gX12_readsStatement_X12_readsAnswer rfl rfl rfl zhd_X12_readsAnswer ⟨Nat.le_of_ble_eq_true rfl, Nat.le_of_ble_eq_true rfl⟩) [0, 1, 2, 4, 6, 10] rfl (of_decide_eq_true rfl) [0, 1, 3, 5, 9] rfl rfl rfl rfl hl.1 rfl (Nat.le_of_ble_eq_true rfl) dX12_readsStatement_264 ⟨Nat.le_of_ble_eq_true rfl, Nat.le_of_ble_eq_true rfl⟩ [some 0, some 1, some 2, none, some 3, none, some 4, none, none, none, some 5] (of_decide_eq_true rfl) (of_decide_eq_true rfl) rfl rfl rfl (fun H locs hP hD hS => ?_)
              refine lv_aload_n hx hb dX12_readsStatement_267 rfl (lv_at hl 1 rfl) ?_
              refine lv_bipush (v := 59) hx hb dX12_readsStatement_268 zcb_59 ?_
              obtain ⟨o_114, hqo_114, hfn⟩ := zb_s hfn
              refine zcVv (ci := 12) (rest := []) (pc' := 273) (ws' := [(h0, .inr (12, zO a0 (zI (zI (zI (zI b0 6 o_114.1) 7 o_110.2.1) 8 o_114.2.1) 9 o_114.2.2) c0)), zVi (a0 0) k1 1200 f1, zVi (a0 10) k2 71 f2, zVi (a0 12) k3 2 f3, zVi (a0 17) k4 2 f4, zVi (a0 13) k5 8 f5, zVi (a0 18) k6 28 f6, zVi (a0 14) k7 8 f7, zVi (a0 15) k8 8 f8, zVi (a0 16) k9 8 f9, zVi (a0 26) k10 28 o_110.2.2.2.2, zVi (a0 24) k11 2 f11, zVi (a0 19) k12 28 f12, zVi (a0 20) k13 28 f13, zVi (a0 21) k14 28 f14, zVi (a0 25) k15 28 f15, zVi (a0 27) k16 28 f16, zVl (a0 22) k17 28 f17, zVl (a0 23) k18 28 f18]) hP hK hD hS hA ⟨hx, hb, hml, hown, hts⟩ (zf_X12_mark l dC dI h0 59 a0 (zI (zI (zI (zI b0 6 o_110.1) 7 o_110.2.1) 8 o_110.2.2.1) 9 o_110.2.2.2.1) c0 k1 f1 o_114 hqo_114 H.size) (cwV 1 hts gX12_readsStatement_X12_mark rfl rfl rfl zhd_X12_mark ⟨Nat.le_of_ble_eq_true rfl, Nat.le_of_ble_eq_true rfl⟩) [0, 1] rfl (of_decide_eq_true rfl) [0] rfl rfl rfl rfl hl.1 rfl (Nat.le_of_ble_eq_true rfl) dX12_readsStatement_270 ⟨Nat.le_of_ble_eq_true rfl, Nat.le_of_ble_eq_true rfl⟩ [some 0, some 1] (of_decide_eq_true rfl) (of_decide_eq_true rfl) rfl rfl rfl (fun H locs hP hD hS => ?_)
              have ho := Option.some.inj hfn
              subst ho
              exact zrv hx hb hr hK hP hD hS hQ trivial hlocks dX12_readsStatement_273
            have hfn := (if_neg c_109).symm.trans hfn
            have oc_109 := zk_ne rfl (by decide +kernel : (8 : Int32).toInt = 8) c_109
            by_cases c_118 : s_9 = 9
            · have hfn := (if_pos c_118).symm.trans hfn
              refine W.eq (g2 := F0 m 126 ls [.int 9]) (by rw [c_118]) ?_
              refine lv_tableIn (tgt := 249) (off := 123) hx hb dX12_readsStatement_126 (by decide +kernel) (by decide +kernel) (by decide +kernel) (of_decide_eq_true rfl) ?_
              refine lv_aload_n hx hb dX12_readsStatement_249 rfl (lv_at hl 1 rfl) ?_
              obtain ⟨o_119, hqo_119, hfn⟩ := zb_s hfn
              refine zcVv (ci := 12) (rest := []) (pc' := 253) (ws' := [(h0, .inr (12, zO a0 (zI (zI (zI (zI b0 6 o_119.1) 7 o_119.2.1) 8 o_119.2.2.1) 9 o_119.2.2.2.1) c0)), zVi (a0 0) k1 1200 f1, zVi (a0 10) k2 71 f2, zVi (a0 12) k3 2 f3, zVi (a0 17) k4 2 f4, zVi (a0 13) k5 8 f5, zVi (a0 18) k6 28 f6, zVi (a0 14) k7 8 f7, zVi (a0 15) k8 8 f8, zVi (a0 16) k9 8 f9, zVi (a0 26) k10 28 f10, zVi (a0 24) k11 2 f11, zVi (a0 19) k12 28 f12, zVi (a0 20) k13 28 f13, zVi (a0 21) k14 28 f14, zVi (a0 25) k15 28 o_119.2.2.2.2, zVi (a0 27) k16 28 f16, zVl (a0 22) k17 28 f17, zVl (a0 23) k18 28 f18]) hP hK hD hS hA ⟨hx, hb, hml, hown, hts⟩ (zf_X12_readsFixed l dC dI h0 a0 (zI (zI (zI (zI b0 6 o_1.1) 7 o_1.2.1) 8 s_20.1) 9 s_20.2) c0 k1 f1 k2 f2 k4 f4 k6 f6 k3 f3 k5 f5 k15 f15 o_119 hqo_119 H.size) (cwV 0 hts gX12_readsStatement_X12_readsFixed rfl rfl rfl zhd_X12_readsFixed ⟨Nat.le_of_ble_eq_true rfl, Nat.le_of_ble_eq_true rfl⟩) [0, 1, 2, 4, 6, 3, 5, 15] rfl (of_decide_eq_true rfl) [0, 1, 3, 5, 2, 4, 14] rfl rfl rfl rfl hl.1 rfl (Nat.le_of_ble_eq_true rfl) dX12_readsStatement_250 ⟨Nat.le_of_ble_eq_true rfl, Nat.le_of_ble_eq_true rfl⟩ [some 0, some 1, some 2, some 5, some 3, some 6, some 4, none, none, none, none, none, none, none, none, some 7] (of_decide_eq_true rfl) (of_decide_eq_true rfl) rfl rfl rfl (fun H locs hP hD hS => ?_)
              refine lv_goto (tgt := 267) hx hb dX12_readsStatement_253 (of_decide_eq_true rfl) ?_
              refine lv_aload_n hx hb dX12_readsStatement_267 rfl (lv_at hl 1 rfl) ?_
              refine lv_bipush (v := 59) hx hb dX12_readsStatement_268 zcb_59 ?_
              obtain ⟨o_123, hqo_123, hfn⟩ := zb_s hfn
              refine zcVv (ci := 12) (rest := []) (pc' := 273) (ws' := [(h0, .inr (12, zO a0 (zI (zI (zI (zI b0 6 o_123.1) 7 o_119.2.1) 8 o_123.2.1) 9 o_123.2.2) c0)), zVi (a0 0) k1 1200 f1, zVi (a0 10) k2 71 f2, zVi (a0 12) k3 2 f3, zVi (a0 17) k4 2 f4, zVi (a0 13) k5 8 f5, zVi (a0 18) k6 28 f6, zVi (a0 14) k7 8 f7, zVi (a0 15) k8 8 f8, zVi (a0 16) k9 8 f9, zVi (a0 26) k10 28 f10, zVi (a0 24) k11 2 f11, zVi (a0 19) k12 28 f12, zVi (a0 20) k13 28 f13, zVi (a0 21) k14 28 f14, zVi (a0 25) k15 28 o_119.2.2.2.2, zVi (a0 27) k16 28 f16, zVl (a0 22) k17 28 f17, zVl (a0 23) k18 28 f18]) hP hK hD hS hA ⟨hx, hb, hml, hown, hts⟩ (zf_X12_mark l dC dI h0 59 a0 (zI (zI (zI (zI b0 6 o_119.1) 7 o_119.2.1) 8 o_119.2.2.1) 9 o_119.2.2.2.1) c0 k1 f1 o_123 hqo_123 H.size) (cwV 1 hts gX12_readsStatement_X12_mark rfl rfl rfl zhd_X12_mark ⟨Nat.le_of_ble_eq_true rfl, Nat.le_of_ble_eq_true rfl⟩) [0, 1] rfl (of_decide_eq_true rfl) [0] rfl rfl rfl rfl hl.1 rfl (Nat.le_of_ble_eq_true rfl) dX12_readsStatement_270 ⟨Nat.le_of_ble_eq_true rfl, Nat.le_of_ble_eq_true rfl⟩ [some 0, some 1] (of_decide_eq_true rfl) (of_decide_eq_true rfl) rfl rfl rfl (fun H locs hP hD hS => ?_)
              have ho := Option.some.inj hfn
              subst ho
              exact zrv hx hb hr hK hP hD hS hQ trivial hlocks dX12_readsStatement_273
            have hfn := (if_neg c_118).symm.trans hfn
            have oc_118 := zk_ne rfl (by decide +kernel : (9 : Int32).toInt = 9) c_118
            by_cases c_127 : s_9 = 10
            · have hfn := (if_pos c_127).symm.trans hfn
              refine W.eq (g2 := F0 m 126 ls [.int 10]) (by rw [c_127]) ?_
              refine lv_tableIn (tgt := 256) (off := 130) hx hb dX12_readsStatement_126 (by decide +kernel) (by decide +kernel) (by decide +kernel) (of_decide_eq_true rfl) ?_
              refine lv_aload_n hx hb dX12_readsStatement_256 rfl (lv_at hl 1 rfl) ?_
              obtain ⟨o_128, hqo_128, hfn⟩ := zb_s hfn
              refine zcVv (ci := 12) (rest := []) (pc' := 260) (ws' := [(h0, .inr (12, zO a0 (zI (zI (zI (zI b0 6 o_128.1) 7 o_128.2.1) 8 o_128.2.2.1) 9 o_128.2.2.2.1) c0)), zVi (a0 0) k1 1200 f1, zVi (a0 10) k2 71 f2, zVi (a0 12) k3 2 f3, zVi (a0 17) k4 2 f4, zVi (a0 13) k5 8 f5, zVi (a0 18) k6 28 f6, zVi (a0 14) k7 8 f7, zVi (a0 15) k8 8 f8, zVi (a0 16) k9 8 f9, zVi (a0 26) k10 28 f10, zVi (a0 24) k11 2 f11, zVi (a0 19) k12 28 f12, zVi (a0 20) k13 28 f13, zVi (a0 21) k14 28 f14, zVi (a0 25) k15 28 f15, zVi (a0 27) k16 28 o_128.2.2.2.2, zVl (a0 22) k17 28 f17, zVl (a0 23) k18 28 f18]) hP hK hD hS hA ⟨hx, hb, hml, hown, hts⟩ (zf_X12_readsGroup l dC dI h0 a0 (zI (zI (zI (zI b0 6 o_1.1) 7 o_1.2.1) 8 s_20.1) 9 s_20.2) c0 k1 f1 k2 f2 k4 f4 k6 f6 k16 f16 o_128 hqo_128 H.size) (cwV 0 hts gX12_readsStatement_X12_readsGroup rfl rfl rfl zhd_X12_readsGroup ⟨Nat.le_of_ble_eq_true rfl, Nat.le_of_ble_eq_true rfl⟩) [0, 1, 2, 4, 6, 16] rfl (of_decide_eq_true rfl) [0, 1, 3, 5, 15] rfl rfl rfl rfl hl.1 rfl (Nat.le_of_ble_eq_true rfl) dX12_readsStatement_257 ⟨Nat.le_of_ble_eq_true rfl, Nat.le_of_ble_eq_true rfl⟩ [some 0, some 1, some 2, none, some 3, none, some 4, none, none, none, none, none, none, none, none, none, some 5] (of_decide_eq_true rfl) (of_decide_eq_true rfl) rfl rfl rfl (fun H locs hP hD hS => ?_)
              refine lv_goto (tgt := 267) hx hb dX12_readsStatement_260 (of_decide_eq_true rfl) ?_
              refine lv_aload_n hx hb dX12_readsStatement_267 rfl (lv_at hl 1 rfl) ?_
              refine lv_bipush (v := 59) hx hb dX12_readsStatement_268 zcb_59 ?_
              obtain ⟨o_132, hqo_132, hfn⟩ := zb_s hfn
              refine zcVv (ci := 12) (rest := []) (pc' := 273) (ws' := [(h0, .inr (12, zO a0 (zI (zI (zI (zI b0 6 o_132.1) 7 o_128.2.1) 8 o_132.2.1) 9 o_132.2.2) c0)), zVi (a0 0) k1 1200 f1, zVi (a0 10) k2 71 f2, zVi (a0 12) k3 2 f3, zVi (a0 17) k4 2 f4, zVi (a0 13) k5 8 f5, zVi (a0 18) k6 28 f6, zVi (a0 14) k7 8 f7, zVi (a0 15) k8 8 f8, zVi (a0 16) k9 8 f9, zVi (a0 26) k10 28 f10, zVi (a0 24) k11 2 f11, zVi (a0 19) k12 28 f12, zVi (a0 20) k13 28 f13, zVi (a0 21) k14 28 f14, zVi (a0 25) k15 28 f15, zVi (a0 27) k16 28 o_128.2.2.2.2, zVl (a0 22) k17 28 f17, zVl (a0 23) k18 28 f18]) hP hK hD hS hA ⟨hx, hb, hml, hown, hts⟩ (zf_X12_mark l dC dI h0 59 a0 (zI (zI (zI (zI b0 6 o_128.1) 7 o_128.2.1) 8 o_128.2.2.1) 9 o_128.2.2.2.1) c0 k1 f1 o_132 hqo_132 H.size) (cwV 1 hts gX12_readsStatement_X12_mark rfl rfl rfl zhd_X12_mark ⟨Nat.le_of_ble_eq_true rfl, Nat.le_of_ble_eq_true rfl⟩) [0, 1] rfl (of_decide_eq_true rfl) [0] rfl rfl rfl rfl hl.1 rfl (Nat.le_of_ble_eq_true rfl) dX12_readsStatement_270 ⟨Nat.le_of_ble_eq_true rfl, Nat.le_of_ble_eq_true rfl⟩ [some 0, some 1] (of_decide_eq_true rfl) (of_decide_eq_true rfl) rfl rfl rfl (fun H locs hP hD hS => ?_)
              have ho := Option.some.inj hfn
              subst ho
              exact zrv hx hb hr hK hP hD hS hQ trivial hlocks dX12_readsStatement_273
            have hfn := (if_neg c_127).symm.trans hfn
            have oc_127 := zk_ne rfl (by decide +kernel : (10 : Int32).toInt = 10) c_127
            refine lv_tableOut (tgt := 263) hx hb dX12_readsStatement_126 (by omega) (of_decide_eq_true rfl) ?_
            refine lv_aload_n hx hb dX12_readsStatement_263 rfl (lv_at hl 1 rfl) ?_
            obtain ⟨o_136, hqo_136, hfn⟩ := zb_s hfn
            refine zcVv (ci := 12) (rest := []) (pc' := 267) (ws' := [(h0, .inr (12, zO a0 (zI (zI (zI (zI b0 6 o_136.1) 7 o_136.2.1) 8 o_136.2.2.1) 9 o_136.2.2.2.1) c0)), zVi (a0 0) k1 1200 f1, zVi (a0 10) k2 71 f2, zVi (a0 12) k3 2 f3, zVi (a0 17) k4 2 f4, zVi (a0 13) k5 8 f5, zVi (a0 18) k6 28 f6, zVi (a0 14) k7 8 f7, zVi (a0 15) k8 8 f8, zVi (a0 16) k9 8 f9, zVi (a0 26) k10 28 o_136.2.2.2.2, zVi (a0 24) k11 2 f11, zVi (a0 19) k12 28 f12, zVi (a0 20) k13 28 f13, zVi (a0 21) k14 28 f14, zVi (a0 25) k15 28 f15, zVi (a0 27) k16 28 f16, zVl (a0 22) k17 28 f17, zVl (a0 23) k18 28 f18]) hP hK hD hS hA ⟨hx, hb, hml, hown, hts⟩ (zf_X12_readsAnswer l dC dI h0 a0 (zI (zI (zI (zI b0 6 o_1.1) 7 o_1.2.1) 8 s_20.1) 9 s_20.2) c0 k1 f1 k2 f2 k4 f4 k6 f6 k10 f10 o_136 hqo_136 H.size) (cwV 0 hts gX12_readsStatement_X12_readsAnswer rfl rfl rfl zhd_X12_readsAnswer ⟨Nat.le_of_ble_eq_true rfl, Nat.le_of_ble_eq_true rfl⟩) [0, 1, 2, 4, 6, 10] rfl (of_decide_eq_true rfl) [0, 1, 3, 5, 9] rfl rfl rfl rfl hl.1 rfl (Nat.le_of_ble_eq_true rfl) dX12_readsStatement_264 ⟨Nat.le_of_ble_eq_true rfl, Nat.le_of_ble_eq_true rfl⟩ [some 0, some 1, some 2, none, some 3, none, some 4, none, none, none, some 5] (of_decide_eq_true rfl) (of_decide_eq_true rfl) rfl rfl rfl (fun H locs hP hD hS => ?_)
            refine lv_aload_n hx hb dX12_readsStatement_267 rfl (lv_at hl 1 rfl) ?_
            refine lv_bipush (v := 59) hx hb dX12_readsStatement_268 zcb_59 ?_
            obtain ⟨o_140, hqo_140, hfn⟩ := zb_s hfn
            refine zcVv (ci := 12) (rest := []) (pc' := 273) (ws' := [(h0, .inr (12, zO a0 (zI (zI (zI (zI b0 6 o_140.1) 7 o_136.2.1) 8 o_140.2.1) 9 o_140.2.2) c0)), zVi (a0 0) k1 1200 f1, zVi (a0 10) k2 71 f2, zVi (a0 12) k3 2 f3, zVi (a0 17) k4 2 f4, zVi (a0 13) k5 8 f5, zVi (a0 18) k6 28 f6, zVi (a0 14) k7 8 f7, zVi (a0 15) k8 8 f8, zVi (a0 16) k9 8 f9, zVi (a0 26) k10 28 o_136.2.2.2.2, zVi (a0 24) k11 2 f11, zVi (a0 19) k12 28 f12, zVi (a0 20) k13 28 f13, zVi (a0 21) k14 28 f14, zVi (a0 25) k15 28 f15, zVi (a0 27) k16 28 f16, zVl (a0 22) k17 28 f17, zVl (a0 23) k18 28 f18]) hP hK hD hS hA ⟨hx, hb, hml, hown, hts⟩ (zf_X12_mark l dC dI h0 59 a0 (zI (zI (zI (zI b0 6 o_136.1) 7 o_136.2.1) 8 o_136.2.2.1) 9 o_136.2.2.2.1) c0 k1 f1 o_140 hqo_140 H.size) (cwV 1 hts gX12_readsStatement_X12_mark rfl rfl rfl zhd_X12_mark ⟨Nat.le_of_ble_eq_true rfl, Nat.le_of_ble_eq_true rfl⟩) [0, 1] rfl (of_decide_eq_true rfl) [0] rfl rfl rfl rfl hl.1 rfl (Nat.le_of_ble_eq_true rfl) dX12_readsStatement_270 ⟨Nat.le_of_ble_eq_true rfl, Nat.le_of_ble_eq_true rfl⟩ [some 0, some 1] (of_decide_eq_true rfl) (of_decide_eq_true rfl) rfl rfl rfl (fun H locs hP hD hS => ?_)
            have ho := Option.some.inj hfn
            subst ho
            exact zrv hx hb hr hK hP hD hS hQ trivial hlocks dX12_readsStatement_273
          have hfn := (if_pos c_25).symm.trans hfn
          have ho := Option.some.inj hfn
          subst ho
          exact zrv hx hb hr hK hP hD hS hQ trivial hlocks dX12_readsStatement_124
        refine lv_if_eq (tgt := 117) hx hb dX12_readsStatement_101 (of_decide_eq_true rfl) (fun c_144 => ?_) (fun c_144 => ?_)
        · have hfn := (if_pos c_144).symm.trans hfn
          exact jp_20 (s_14.1, s_14.2) H locs ls hfn hP hD hS (lv_sub hl [1, 2] rfl)
        have hfn := (if_neg c_144).symm.trans hfn
        refine lv_iload_n hx hb dX12_readsStatement_104 rfl (lv_at hl 0 rfl) ?_
        refine lv_if_eq (tgt := 117) hx hb dX12_readsStatement_105 (of_decide_eq_true rfl) (fun c_145 => ?_) (fun c_145 => ?_)
        · have hfn := (if_pos c_145).symm.trans hfn
          exact jp_20 (s_14.1, s_14.2) H locs ls hfn hP hD hS (lv_sub hl [1, 2] rfl)
        have hfn := (if_neg c_145).symm.trans hfn
        refine lv_aload_n hx hb dX12_readsStatement_108 rfl (lv_at hl 2 rfl) ?_
        refine lv_iconst (v := 4) hx hb dX12_readsStatement_109 zci_4 ?_
        refine lv_aload_n hx hb dX12_readsStatement_110 rfl (lv_at hl 2 rfl) ?_
        refine va_get (D := (dC, dI)) (ci := 12) (v := .int o_1.2.1) (C := RX12) (T := TX12) (N := 67) hx hb hts zn_X12_readsStatement_X12 hown hK hP 0 rfl rfl 7 (of_decide_eq_true rfl) (hts (.fieldLink RX12 32 "ShortEnoughModel" "begun" "I") zw_X12_readsStatement_987) (fun _ h9 => h9) rfl dX12_readsStatement_111 ?_
        obtain ⟨o_146, hqo_146, hfn⟩ := zb_s hfn
        refine zcVv (ci := 12) (rest := []) (pc' := 117) (ws' := [(h0, .inr (12, zO a0 (zI (zI (zI (zI b0 6 o_1.1) 7 o_1.2.1) 8 o_146.1) 9 o_146.2) c0)), zVi (a0 0) k1 1200 f1, zVi (a0 10) k2 71 f2, zVi (a0 12) k3 2 f3, zVi (a0 17) k4 2 f4, zVi (a0 13) k5 8 f5, zVi (a0 18) k6 28 f6, zVi (a0 14) k7 8 f7, zVi (a0 15) k8 8 f8, zVi (a0 16) k9 8 f9, zVi (a0 26) k10 28 f10, zVi (a0 24) k11 2 f11, zVi (a0 19) k12 28 f12, zVi (a0 20) k13 28 f13, zVi (a0 21) k14 28 f14, zVi (a0 25) k15 28 f15, zVi (a0 27) k16 28 f16, zVl (a0 22) k17 28 f17, zVl (a0 23) k18 28 f18]) hP hK hD hS hA ⟨hx, hb, hml, hown, hts⟩ (zf_X12_faults l dC dI h0 4 o_1.2.1 a0 (zI (zI (zI (zI b0 6 o_1.1) 7 o_1.2.1) 8 s_14.1) 9 s_14.2) c0 o_146 hqo_146 H.size) (cwV 2 hts gX12_readsStatement_X12_faults rfl rfl rfl zhd_X12_faults ⟨Nat.le_of_ble_eq_true rfl, Nat.le_of_ble_eq_true rfl⟩) [0] rfl (of_decide_eq_true rfl) [] rfl rfl rfl rfl hl.1 rfl (Nat.le_of_ble_eq_true rfl) dX12_readsStatement_114 ⟨Nat.le_of_ble_eq_true rfl, Nat.le_of_ble_eq_true rfl⟩ [some 0] (of_decide_eq_true rfl) (of_decide_eq_true rfl) rfl rfl rfl (fun H locs hP hD hS => ?_)
        exact jp_20 (o_146.1, o_146.2) H locs ls hfn hP hD hS (lv_sub hl [1, 2] rfl)
      obtain ⟨j_150, ej_150, hfn⟩ := zj_g hfn
      have jp_150 : ∀ (s_150 : Unit) (H : Heap) (locs : List Loc) (ls : Array Slot), j_150 s_150 = some o → va_P (dC, dI) vwCl [(h0, .inr (12, zO a0 (zI (zI (zI (zI b0 6 o_1.1) 7 o_1.2.1) 8 s_14.1) 9 s_14.2) c0)), zVi (a0 0) k1 1200 f1, zVi (a0 10) k2 71 f2, zVi (a0 12) k3 2 f3, zVi (a0 17) k4 2 f4, zVi (a0 13) k5 8 f5, zVi (a0 18) k6 28 f6, zVi (a0 14) k7 8 f7, zVi (a0 15) k8 8 f8, zVi (a0 16) k9 8 f9, zVi (a0 26) k10 28 f10, zVi (a0 24) k11 2 f11, zVi (a0 19) k12 28 f12, zVi (a0 20) k13 28 f13, zVi (a0 21) k14 28 f14, zVi (a0 25) k15 28 f15, zVi (a0 27) k16 28 f16, zVl (a0 22) k17 28 f17, zVl (a0 23) k18 28 f18] H → va_D A [(h0, .inr (12, zO a0 (zI (zI (zI (zI b0 6 o_1.1) 7 o_1.2.1) 8 s_14.1) 9 s_14.2) c0)), zVi (a0 0) k1 1200 f1, zVi (a0 10) k2 71 f2, zVi (a0 12) k3 2 f3, zVi (a0 17) k4 2 f4, zVi (a0 13) k5 8 f5, zVi (a0 18) k6 28 f6, zVi (a0 14) k7 8 f7, zVi (a0 15) k8 8 f8, zVi (a0 16) k9 8 f9, zVi (a0 26) k10 28 f10, zVi (a0 24) k11 2 f11, zVi (a0 19) k12 28 f12, zVi (a0 20) k13 28 f13, zVi (a0 21) k14 28 f14, zVi (a0 25) k15 28 f15, zVi (a0 27) k16 28 f16, zVl (a0 22) k17 28 f17, zVl (a0 23) k18 28 f18] → va_S A s.heap H locs → lv_has ls 6 [(2, .int s_9), (0, .ref h0)] → W p l e (headSpec wsX12_readsStatement ({ frames := 7, cells := 0, slots := 0, locals := 155 })).room s m ([.ref h0, .int p1] : List Value).toArray below meth c H locs 0 0 Q (F0 m 91 ls []) := by
        intro s_150 H locs ls hfn hP hD hS hl
        have hfn := zj_s ej_150 hfn
        refine lv_iconst (v := 1) hx hb dX12_readsStatement_91 zci_1 ?_
        refine lv_goto (tgt := 96) hx hb dX12_readsStatement_92 (of_decide_eq_true rfl) ?_
        exact jp_15 1 H locs ls hfn hP hD hS (lv_sub hl [0, 1] rfl)
      refine lv_icmp_eq (tgt := 91) hx hb dX12_readsStatement_46 (of_decide_eq_true rfl) (fun c_151 => ?_) (fun c_151 => ?_)
      · have hfn := (if_pos c_151).symm.trans hfn
        exact jp_150 () H locs ls hfn hP hD hS (lv_sub hl [0, 1] rfl)
      have hfn := (if_neg c_151).symm.trans hfn
      refine lv_iload_n hx hb dX12_readsStatement_49 rfl (lv_at hl 0 rfl) ?_
      obtain ⟨j_152, ej_152, hfn⟩ := zj_g hfn
      have jp_152 : ∀ (s_152 : Unit) (H : Heap) (locs : List Loc) (ls : Array Slot), j_152 s_152 = some o → va_P (dC, dI) vwCl [(h0, .inr (12, zO a0 (zI (zI (zI (zI b0 6 o_1.1) 7 o_1.2.1) 8 s_14.1) 9 s_14.2) c0)), zVi (a0 0) k1 1200 f1, zVi (a0 10) k2 71 f2, zVi (a0 12) k3 2 f3, zVi (a0 17) k4 2 f4, zVi (a0 13) k5 8 f5, zVi (a0 18) k6 28 f6, zVi (a0 14) k7 8 f7, zVi (a0 15) k8 8 f8, zVi (a0 16) k9 8 f9, zVi (a0 26) k10 28 f10, zVi (a0 24) k11 2 f11, zVi (a0 19) k12 28 f12, zVi (a0 20) k13 28 f13, zVi (a0 21) k14 28 f14, zVi (a0 25) k15 28 f15, zVi (a0 27) k16 28 f16, zVl (a0 22) k17 28 f17, zVl (a0 23) k18 28 f18] H → va_D A [(h0, .inr (12, zO a0 (zI (zI (zI (zI b0 6 o_1.1) 7 o_1.2.1) 8 s_14.1) 9 s_14.2) c0)), zVi (a0 0) k1 1200 f1, zVi (a0 10) k2 71 f2, zVi (a0 12) k3 2 f3, zVi (a0 17) k4 2 f4, zVi (a0 13) k5 8 f5, zVi (a0 18) k6 28 f6, zVi (a0 14) k7 8 f7, zVi (a0 15) k8 8 f8, zVi (a0 16) k9 8 f9, zVi (a0 26) k10 28 f10, zVi (a0 24) k11 2 f11, zVi (a0 19) k12 28 f12, zVi (a0 20) k13 28 f13, zVi (a0 21) k14 28 f14, zVi (a0 25) k15 28 f15, zVi (a0 27) k16 28 f16, zVl (a0 22) k17 28 f17, zVl (a0 23) k18 28 f18] → va_S A s.heap H locs → lv_has ls 6 [(2, .int s_9), (0, .ref h0)] → W p l e (headSpec wsX12_readsStatement ({ frames := 7, cells := 0, slots := 0, locals := 155 })).room s m ([.ref h0, .int p1] : List Value).toArray below meth c H locs 0 0 Q (F0 m 66 ls []) := by
        intro s_152 H locs ls hfn hP hD hS hl
        have hfn := zj_s ej_152 hfn
        refine lv_iload_n hx hb dX12_readsStatement_66 rfl (lv_at hl 0 rfl) ?_
        refine lv_iconst (v := 5) hx hb dX12_readsStatement_67 zci_5 ?_
        obtain ⟨j_153, ej_153, hfn⟩ := zj_g hfn
        have jp_153 : ∀ (s_153 : Unit) (H : Heap) (locs : List Loc) (ls : Array Slot), j_153 s_153 = some o → va_P (dC, dI) vwCl [(h0, .inr (12, zO a0 (zI (zI (zI (zI b0 6 o_1.1) 7 o_1.2.1) 8 s_14.1) 9 s_14.2) c0)), zVi (a0 0) k1 1200 f1, zVi (a0 10) k2 71 f2, zVi (a0 12) k3 2 f3, zVi (a0 17) k4 2 f4, zVi (a0 13) k5 8 f5, zVi (a0 18) k6 28 f6, zVi (a0 14) k7 8 f7, zVi (a0 15) k8 8 f8, zVi (a0 16) k9 8 f9, zVi (a0 26) k10 28 f10, zVi (a0 24) k11 2 f11, zVi (a0 19) k12 28 f12, zVi (a0 20) k13 28 f13, zVi (a0 21) k14 28 f14, zVi (a0 25) k15 28 f15, zVi (a0 27) k16 28 f16, zVl (a0 22) k17 28 f17, zVl (a0 23) k18 28 f18] H → va_D A [(h0, .inr (12, zO a0 (zI (zI (zI (zI b0 6 o_1.1) 7 o_1.2.1) 8 s_14.1) 9 s_14.2) c0)), zVi (a0 0) k1 1200 f1, zVi (a0 10) k2 71 f2, zVi (a0 12) k3 2 f3, zVi (a0 17) k4 2 f4, zVi (a0 13) k5 8 f5, zVi (a0 18) k6 28 f6, zVi (a0 14) k7 8 f7, zVi (a0 15) k8 8 f8, zVi (a0 16) k9 8 f9, zVi (a0 26) k10 28 f10, zVi (a0 24) k11 2 f11, zVi (a0 19) k12 28 f12, zVi (a0 20) k13 28 f13, zVi (a0 21) k14 28 f14, zVi (a0 25) k15 28 f15, zVi (a0 27) k16 28 f16, zVl (a0 22) k17 28 f17, zVl (a0 23) k18 28 f18] → va_S A s.heap H locs → lv_has ls 6 [(2, .int s_9), (0, .ref h0)] → W p l e (headSpec wsX12_readsStatement ({ frames := 7, cells := 0, slots := 0, locals := 155 })).room s m ([.ref h0, .int p1] : List Value).toArray below meth c H locs 0 0 Q (F0 m 77 ls []) := by
          intro s_153 H locs ls hfn hP hD hS hl
          have hfn := zj_s ej_153 hfn
          refine lv_aload_n hx hb dX12_readsStatement_77 rfl (lv_at hl 1 rfl) ?_
          refine va_get (D := (dC, dI)) (ci := 12) (v := .ref (a0 17)) (C := RX12) (T := TX12) (N := 67) hx hb hts zn_X12_readsStatement_X12 hown hK hP 0 rfl rfl 17 (of_decide_eq_true rfl) (hts (.fieldLink RX12 62 "ShortEnoughModel" "numbers" "[I") zw_X12_readsStatement_990) (fun _ h9 => h9) rfl dX12_readsStatement_78 ?_
          refine lv_aload_n hx hb dX12_readsStatement_81 rfl (lv_at hl 1 rfl) ?_
          refine va_get (D := (dC, dI)) (ci := 12) (v := .int (b0 11)) (C := RX12) (T := TX12) (N := 67) hx hb hts zn_X12_readsStatement_X12 hown hK hP 0 rfl rfl 11 (of_decide_eq_true rfl) (hts (.fieldLink RX12 44 "ShortEnoughModel" "in" "I") zw_X12_readsStatement_989) (fun _ h9 => h9) rfl dX12_readsStatement_82 ?_
          obtain ⟨h_154, hfn⟩ := zg_s hfn
          refine va_iald hx hb hK hP 4 3 rfl rfl h_154 dX12_readsStatement_85 ?_
          refine lv_bipush (v := 14) hx hb dX12_readsStatement_86 zcb_14 ?_
          refine lv_icmp_ne (tgt := 95) hx hb dX12_readsStatement_88 (of_decide_eq_true rfl) (fun c_155 => ?_) (fun c_155 => ?_)
          · have hfn := (if_neg c_155).symm.trans hfn
            refine lv_iconst (v := 0) hx hb dX12_readsStatement_95 zci_0 ?_
            exact jp_15 0 H locs ls hfn hP hD hS (lv_sub hl [0, 1] rfl)
          have hfn := (if_pos c_155).symm.trans hfn
          exact jp_150 () H locs ls hfn hP hD hS (lv_sub hl [0, 1] rfl)
        refine lv_icmp_eq (tgt := 77) hx hb dX12_readsStatement_68 (of_decide_eq_true rfl) (fun c_156 => ?_) (fun c_156 => ?_)
        · have hfn := (if_pos c_156).symm.trans hfn
          exact jp_153 () H locs ls hfn hP hD hS (lv_sub hl [0, 1] rfl)
        have hfn := (if_neg c_156).symm.trans hfn
        refine lv_iload_n hx hb dX12_readsStatement_71 rfl (lv_at hl 0 rfl) ?_
        refine lv_bipush (v := 6) hx hb dX12_readsStatement_72 zcb_6 ?_
        refine lv_icmp_ne (tgt := 95) hx hb dX12_readsStatement_74 (of_decide_eq_true rfl) (fun c_157 => ?_) (fun c_157 => ?_)
        · have hfn := (if_neg c_157).symm.trans hfn
          refine lv_iconst (v := 0) hx hb dX12_readsStatement_95 zci_0 ?_
          exact jp_15 0 H locs ls hfn hP hD hS (lv_sub hl [0, 1] rfl)
        have hfn := (if_pos c_157).symm.trans hfn
        exact jp_153 () H locs ls hfn hP hD hS (lv_sub hl [0, 1] rfl)
      refine lv_if_ne (tgt := 66) hx hb dX12_readsStatement_50 (of_decide_eq_true rfl) (fun c_158 => ?_) (fun c_158 => ?_)
      · have hfn := (if_neg c_158).symm.trans hfn
        exact jp_152 () H locs ls hfn hP hD hS (lv_sub hl [0, 1] rfl)
      have hfn := (if_pos c_158).symm.trans hfn
      refine lv_aload_n hx hb dX12_readsStatement_53 rfl (lv_at hl 1 rfl) ?_
      refine va_get (D := (dC, dI)) (ci := 12) (v := .ref (a0 12)) (C := RX12) (T := TX12) (N := 67) hx hb hts zn_X12_readsStatement_X12 hown hK hP 0 rfl rfl 12 (of_decide_eq_true rfl) (hts (.fieldLink RX12 47 "ShortEnoughModel" "formats" "[I") zw_X12_readsStatement_988) (fun _ h9 => h9) rfl dX12_readsStatement_54 ?_
      refine lv_aload_n hx hb dX12_readsStatement_57 rfl (lv_at hl 1 rfl) ?_
      refine va_get (D := (dC, dI)) (ci := 12) (v := .int (b0 11)) (C := RX12) (T := TX12) (N := 67) hx hb hts zn_X12_readsStatement_X12 hown hK hP 0 rfl rfl 11 (of_decide_eq_true rfl) (hts (.fieldLink RX12 44 "ShortEnoughModel" "in" "I") zw_X12_readsStatement_989) (fun _ h9 => h9) rfl dX12_readsStatement_58 ?_
      obtain ⟨h_159, hfn⟩ := zg_s hfn
      refine va_iald hx hb hK hP 3 2 rfl rfl h_159 dX12_readsStatement_61 ?_
      refine lv_iconst (v := 4) hx hb dX12_readsStatement_62 zci_4 ?_
      refine lv_icmp_eq (tgt := 91) hx hb dX12_readsStatement_63 (of_decide_eq_true rfl) (fun c_160 => ?_) (fun c_160 => ?_)
      · have hfn := (if_pos c_160).symm.trans hfn
        exact jp_150 () H locs ls hfn hP hD hS (lv_sub hl [0, 1] rfl)
      have hfn := (if_neg c_160).symm.trans hfn
      exact jp_152 () H locs ls hfn hP hD hS (lv_sub hl [0, 1] rfl)
    refine lv_if_eq (tgt := 43) hx hb dX12_readsStatement_24 (of_decide_eq_true rfl) (fun c_161 => ?_) (fun c_161 => ?_)
    · have hfn := (if_pos c_161).symm.trans hfn
      exact jp_14 (o_1.2.2.1, o_1.2.2.2) H locs ls hfn hP hD hS (lv_sub hl [0, 1, 2] rfl)
    have hfn := (if_neg c_161).symm.trans hfn
    refine lv_iload_n hx hb dX12_readsStatement_27 rfl (lv_at hl 0 rfl) ?_
    obtain ⟨o_162, hqo_162, hfn⟩ := zb_s hfn
    refine zcSb (rest := []) (pc' := 31) (ws' := [(h0, .inr (12, zO a0 (zI (zI (zI (zI b0 6 o_1.1) 7 o_1.2.1) 8 o_1.2.2.1) 9 o_1.2.2.2) c0)), zVi (a0 0) k1 1200 f1, zVi (a0 10) k2 71 f2, zVi (a0 12) k3 2 f3, zVi (a0 17) k4 2 f4, zVi (a0 13) k5 8 f5, zVi (a0 18) k6 28 f6, zVi (a0 14) k7 8 f7, zVi (a0 15) k8 8 f8, zVi (a0 16) k9 8 f9, zVi (a0 26) k10 28 f10, zVi (a0 24) k11 2 f11, zVi (a0 19) k12 28 f12, zVi (a0 20) k13 28 f13, zVi (a0 21) k14 28 f14, zVi (a0 25) k15 28 f15, zVi (a0 27) k16 28 f16, zVl (a0 22) k17 28 f17, zVl (a0 23) k18 28 f18]) hP hK hD hS hA ⟨hx, hb, hml, hown, hts⟩ (zf_X12_isBeginning l dC dI s_9 o_162 hqo_162 H.size) (va_cwS 1 hts gX12_readsStatement_X12_isBeginning rfl rfl rfl zhd_X12_isBeginning.2 ⟨Nat.le_of_ble_eq_true rfl, Nat.le_of_ble_eq_true rfl⟩) [] rfl (of_decide_eq_true rfl) [] rfl rfl hl.1 rfl (Nat.le_of_ble_eq_true rfl) dX12_readsStatement_28 ⟨Nat.le_of_ble_eq_true rfl, Nat.le_of_ble_eq_true rfl⟩ [] (of_decide_eq_true rfl) (of_decide_eq_true rfl) rfl rfl rfl (fun H locs hw_165n hP hD hS => ?_)
    refine lv_if_ne (tgt := 43) hx hb dX12_readsStatement_31 (of_decide_eq_true rfl) (fun c_166 => ?_) (fun c_166 => ?_)
    · have hfn := (if_neg c_166).symm.trans hfn
      exact jp_14 (o_1.2.2.1, o_1.2.2.2) H locs ls hfn hP hD hS (lv_sub hl [0, 1, 2] rfl)
    have hfn := (if_pos c_166).symm.trans hfn
    refine lv_aload_n hx hb dX12_readsStatement_34 rfl (lv_at hl 1 rfl) ?_
    refine lv_iconst (v := 1) hx hb dX12_readsStatement_35 zci_1 ?_
    refine lv_aload_n hx hb dX12_readsStatement_36 rfl (lv_at hl 1 rfl) ?_
    refine va_get (D := (dC, dI)) (ci := 12) (v := .int o_1.2.1) (C := RX12) (T := TX12) (N := 67) hx hb hts zn_X12_readsStatement_X12 hown hK hP 0 rfl rfl 7 (of_decide_eq_true rfl) (hts (.fieldLink RX12 32 "ShortEnoughModel" "begun" "I") zw_X12_readsStatement_987) (fun _ h9 => h9) rfl dX12_readsStatement_37 ?_
    obtain ⟨o_167, hqo_167, hfn⟩ := zb_s hfn
    refine zcVv (ci := 12) (rest := []) (pc' := 43) (ws' := [(h0, .inr (12, zO a0 (zI (zI (zI (zI b0 6 o_1.1) 7 o_1.2.1) 8 o_167.1) 9 o_167.2) c0)), zVi (a0 0) k1 1200 f1, zVi (a0 10) k2 71 f2, zVi (a0 12) k3 2 f3, zVi (a0 17) k4 2 f4, zVi (a0 13) k5 8 f5, zVi (a0 18) k6 28 f6, zVi (a0 14) k7 8 f7, zVi (a0 15) k8 8 f8, zVi (a0 16) k9 8 f9, zVi (a0 26) k10 28 f10, zVi (a0 24) k11 2 f11, zVi (a0 19) k12 28 f12, zVi (a0 20) k13 28 f13, zVi (a0 21) k14 28 f14, zVi (a0 25) k15 28 f15, zVi (a0 27) k16 28 f16, zVl (a0 22) k17 28 f17, zVl (a0 23) k18 28 f18]) hP hK hD hS hA ⟨hx, hb, hml, hown, hts⟩ (zf_X12_faults l dC dI h0 1 o_1.2.1 a0 (zI (zI (zI (zI b0 6 o_1.1) 7 o_1.2.1) 8 o_1.2.2.1) 9 o_1.2.2.2) c0 o_167 hqo_167 H.size) (cwV 2 hts gX12_readsStatement_X12_faults rfl rfl rfl zhd_X12_faults ⟨Nat.le_of_ble_eq_true rfl, Nat.le_of_ble_eq_true rfl⟩) [0] rfl (of_decide_eq_true rfl) [] rfl rfl rfl rfl hl.1 rfl (Nat.le_of_ble_eq_true rfl) dX12_readsStatement_40 ⟨Nat.le_of_ble_eq_true rfl, Nat.le_of_ble_eq_true rfl⟩ [some 0] (of_decide_eq_true rfl) (of_decide_eq_true rfl) rfl rfl rfl (fun H locs hP hD hS => ?_)
    exact jp_14 (o_167.1, o_167.2) H locs ls hfn hP hD hS (lv_sub hl [0, 1, 2] rfl)
  refine lv_if_eq (tgt := 18) hx hb dX12_readsStatement_8 (of_decide_eq_true rfl) (fun c_171 => ?_) (fun c_171 => ?_)
  · have hfn := (if_pos c_171).symm.trans hfn
    refine lv_iconst (v := (-1)) hx hb dX12_readsStatement_18 zci_m1 ?_
    exact jp_9 (-1) H locs ls hfn hP hD hS (lv_sub hl [0, 1] rfl)
  have hfn := (if_neg c_171).symm.trans hfn
  refine lv_aload_n hx hb dX12_readsStatement_11 rfl (lv_at hl 0 rfl) ?_
  obtain ⟨o_172, hqo_172, hfn⟩ := zb_s hfn
  refine zcVi (ci := 12) (rest := []) (pc' := 15) (ws' := [(h0, .inr (12, zO a0 (zI (zI (zI (zI b0 6 o_1.1) 7 o_1.2.1) 8 o_1.2.2.1) 9 o_1.2.2.2) c0)), zVi (a0 0) k1 1200 f1, zVi (a0 10) k2 71 f2, zVi (a0 12) k3 2 f3, zVi (a0 17) k4 2 f4, zVi (a0 13) k5 8 f5, zVi (a0 18) k6 28 f6, zVi (a0 14) k7 8 f7, zVi (a0 15) k8 8 f8, zVi (a0 16) k9 8 f9, zVi (a0 26) k10 28 f10, zVi (a0 24) k11 2 f11, zVi (a0 19) k12 28 f12, zVi (a0 20) k13 28 f13, zVi (a0 21) k14 28 f14, zVi (a0 25) k15 28 f15, zVi (a0 27) k16 28 f16, zVl (a0 22) k17 28 f17, zVl (a0 23) k18 28 f18]) hP hK hD hS hA ⟨hx, hb, hml, hown, hts⟩ (zf_X12_own l dC dI h0 a0 (zI (zI (zI (zI b0 6 o_1.1) 7 o_1.2.1) 8 o_1.2.2.1) 9 o_1.2.2.2) c0 k2 f2 k1 f1 o_172 hqo_172 H.size) (cwV 0 hts gX12_readsStatement_X12_own rfl rfl rfl zhd_X12_own ⟨Nat.le_of_ble_eq_true rfl, Nat.le_of_ble_eq_true rfl⟩) [0, 2, 1] rfl (of_decide_eq_true rfl) [1, 0] rfl rfl rfl rfl hl.1 rfl (Nat.le_of_ble_eq_true rfl) dX12_readsStatement_12 ⟨Nat.le_of_ble_eq_true rfl, Nat.le_of_ble_eq_true rfl⟩ [some 0, some 2, some 1] (of_decide_eq_true rfl) (of_decide_eq_true rfl) rfl rfl rfl (fun H locs hP hD hS => ?_)
  refine lv_goto (tgt := 19) hx hb dX12_readsStatement_15 (of_decide_eq_true rfl) ?_
  exact jp_9 o_172 H locs ls hfn hP hD hS (lv_sub hl [0, 1] rfl)
theorem zn_X12_copiesTask_X12 : ∀ w ∈ wsX120, w ∈ wsX12_copiesTask := fun _ h => List.mem_cons_of_mem _ (List.mem_append_right _ h)
theorem zw_X12_copiesTask_994 : Cond.fieldLink RX12 47 "ShortEnoughModel" "formats" "[I" ∈ wsX12_copiesTask := List.mem_of_getElem? (i := 1) (by decide +kernel)
theorem zw_X12_copiesTask_995 : Cond.fieldLink RX12 62 "ShortEnoughModel" "numbers" "[I" ∈ wsX12_copiesTask := List.mem_of_getElem? (i := 2) (by decide +kernel)
theorem zw_X12_copiesTask_996 : Cond.fieldLink RX12 84 "ShortEnoughModel" "castCost" "[I" ∈ wsX12_copiesTask := List.mem_of_getElem? (i := 3) (by decide +kernel)
theorem zw_X12_copiesTask_997 : Cond.fieldLink RX12 50 "ShortEnoughModel" "formatName" "[I" ∈ wsX12_copiesTask := List.mem_of_getElem? (i := 4) (by decide +kernel)
theorem zw_X12_copiesTask_998 : Cond.fieldLink RX12 53 "ShortEnoughModel" "step" "[I" ∈ wsX12_copiesTask := List.mem_of_getElem? (i := 5) (by decide +kernel)
theorem zw_X12_copiesTask_999 : Cond.fieldLink RX12 56 "ShortEnoughModel" "most" "[I" ∈ wsX12_copiesTask := List.mem_of_getElem? (i := 6) (by decide +kernel)
theorem zw_X12_copiesTask_1000 : Cond.fieldLink RX12 59 "ShortEnoughModel" "formatCost" "[I" ∈ wsX12_copiesTask := List.mem_of_getElem? (i := 7) (by decide +kernel)
theorem zw_X12_copiesTask_1001 : Cond.fieldLink RX12 65 "ShortEnoughModel" "numberName" "[I" ∈ wsX12_copiesTask := List.mem_of_getElem? (i := 8) (by decide +kernel)
theorem zw_X12_copiesTask_1002 : Cond.fieldLink RX12 68 "ShortEnoughModel" "op" "[I" ∈ wsX12_copiesTask := List.mem_of_getElem? (i := 9) (by decide +kernel)
theorem zw_X12_copiesTask_1003 : Cond.fieldLink RX12 71 "ShortEnoughModel" "first" "[I" ∈ wsX12_copiesTask := List.mem_of_getElem? (i := 10) (by decide +kernel)
theorem zw_X12_copiesTask_1004 : Cond.fieldLink RX12 74 "ShortEnoughModel" "second" "[I" ∈ wsX12_copiesTask := List.mem_of_getElem? (i := 11) (by decide +kernel)
theorem zw_X12_copiesTask_1005 : Cond.fieldLink RX12 77 "ShortEnoughModel" "firstV" "[J" ∈ wsX12_copiesTask := List.mem_of_getElem? (i := 12) (by decide +kernel)
theorem zw_X12_copiesTask_1006 : Cond.fieldLink RX12 81 "ShortEnoughModel" "secondV" "[J" ∈ wsX12_copiesTask := List.mem_of_getElem? (i := 13) (by decide +kernel)
theorem zw_X12_copiesTask_1007 : Cond.fieldLink RX12 87 "ShortEnoughModel" "fixedAs" "[I" ∈ wsX12_copiesTask := List.mem_of_getElem? (i := 14) (by decide +kernel)
theorem zw_X12_copiesTask_1008 : Cond.fieldLink RX12 90 "ShortEnoughModel" "within" "[I" ∈ wsX12_copiesTask := List.mem_of_getElem? (i := 15) (by decide +kernel)
theorem zw_X12_copiesTask_1009 : Cond.fieldLink RX12 93 "ShortEnoughModel" "groupOf" "[I" ∈ wsX12_copiesTask := List.mem_of_getElem? (i := 16) (by decide +kernel)
set_option maxHeartbeats 4000000 in
set_option maxRecDepth 100000 in
theorem zf_X12_copiesTask (l : Launch) (dC : Nat → ClassId) (dI : Nat → Nat → Nat) (h0 : Nat) (a0 : Nat → Nat) (b0 : Nat → Int32) (c0 : Nat → Int64) (k1 : Nat) (f1 : Nat → Int32) (k2 : Nat) (f2 : Nat → Int32) (k3 : Nat) (f3 : Nat → Int32) (k4 : Nat) (f4 : Nat → Int32) (k5 : Nat) (f5 : Nat → Int32) (k6 : Nat) (f6 : Nat → Int32) (k7 : Nat) (f7 : Nat → Int32) (k8 : Nat) (f8 : Nat → Int32) (k9 : Nat) (f9 : Nat → Int32) (k10 : Nat) (f10 : Nat → Int32) (k11 : Nat) (f11 : Nat → Int32) (k12 : Nat) (f12 : Nat → Int64) (k13 : Nat) (f13 : Nat → Int64) (k14 : Nat) (f14 : Nat → Int32) (k15 : Nat) (f15 : Nat → Int32) (k16 : Nat) (f16 : Nat → Int32) (o : (Nat → Int32) × (Nat → Int32) × (Nat → Int32) × (Nat → Int32) × (Nat → Int32) × (Nat → Int32) × (Nat → Int32) × (Nat → Int32) × (Nat → Int32) × (Nat → Int32) × (Nat → Int32) × (Nat → Int64) × (Nat → Int64) × (Nat → Int32) × (Nat → Int32) × (Nat → Int32)) (hfn : fn_X12_copiesTask f1 f2 f3 f4 f5 f6 f7 f8 f9 f10 f11 f12 f13 f14 f15 f16 = some o) (sz : Nat) : zMv l yX12_copiesTask wsX12_copiesTask ({ frames := 0, cells := 0, slots := 0, locals := 0 }) (dC, dI) vwCl [.ref h0] [(h0, .inr (12, zO a0 b0 c0)), zVi (a0 12) k1 2 f1, zVi (a0 17) k2 2 f2, zVi (a0 24) k3 2 f3, zVi (a0 13) k4 8 f4, zVi (a0 14) k5 8 f5, zVi (a0 15) k6 8 f6, zVi (a0 16) k7 8 f7, zVi (a0 18) k8 28 f8, zVi (a0 19) k9 28 f9, zVi (a0 20) k10 28 f10, zVi (a0 21) k11 28 f11, zVl (a0 22) k12 28 f12, zVl (a0 23) k13 28 f13, zVi (a0 25) k14 28 f14, zVi (a0 26) k15 28 f15, zVi (a0 27) k16 28 f16] [(k1, .int), (k2, .int), (k3, .int), (k4, .int), (k5, .int), (k6, .int), (k7, .int), (k8, .int), (k9, .int), (k10, .int), (k11, .int), (k12, .long), (k13, .long), (k14, .int), (k15, .int), (k16, .int)] (fun _ => True) [(h0, .inr (12, zO a0 b0 c0)), zVi (a0 12) k1 2 o.1, zVi (a0 17) k2 2 o.2.1, zVi (a0 24) k3 2 o.2.2.1, zVi (a0 13) k4 8 o.2.2.2.1, zVi (a0 14) k5 8 o.2.2.2.2.1, zVi (a0 15) k6 8 o.2.2.2.2.2.1, zVi (a0 16) k7 8 o.2.2.2.2.2.2.1, zVi (a0 18) k8 28 o.2.2.2.2.2.2.2.1, zVi (a0 19) k9 28 o.2.2.2.2.2.2.2.2.1, zVi (a0 20) k10 28 o.2.2.2.2.2.2.2.2.2.1, zVi (a0 21) k11 28 o.2.2.2.2.2.2.2.2.2.2.1, zVl (a0 22) k12 28 o.2.2.2.2.2.2.2.2.2.2.2.1, zVl (a0 23) k13 28 o.2.2.2.2.2.2.2.2.2.2.2.2.1, zVi (a0 25) k14 28 o.2.2.2.2.2.2.2.2.2.2.2.2.2.1, zVi (a0 26) k15 28 o.2.2.2.2.2.2.2.2.2.2.2.2.2.2.1, zVi (a0 27) k16 28 o.2.2.2.2.2.2.2.2.2.2.2.2.2.2.2] [(k1, .int), (k2, .int), (k3, .int), (k4, .int), (k5, .int), (k6, .int), (k7, .int), (k8, .int), (k9, .int), (k10, .int), (k11, .int), (k12, .long), (k13, .long), (k14, .int), (k15, .int), (k16, .int)] sz := by
  refine zgov (cc := cX12_copiesTask) (maxL := 3) (ret := none) (C0 := RX12) (lv0 := [(0, .ref h0)]) zpl_X12 rfl rfl rfl (Nat.le_of_ble_eq_true rfl) ?_
  intro p e s m below meth c A ls Q hx hb hr hts hown hlocks hml hP hK hD hA hS hl hQ
  unfold fn_X12_copiesTask at hfn
  refine lv_aload_n hx hb dX12_copiesTask_0 rfl (lv_at hl 0 rfl) ?_
  refine va_get (D := (dC, dI)) (ci := 12) (v := .ref (a0 12)) (C := RX12) (T := TX12) (N := 67) hx hb hts zn_X12_copiesTask_X12 hown hK hP 0 rfl rfl 12 (of_decide_eq_true rfl) (hts (.fieldLink RX12 47 "ShortEnoughModel" "formats" "[I") zw_X12_copiesTask_994) (fun _ h9 => h9) rfl dX12_copiesTask_1 ?_
  refine lv_iconst (v := 0) hx hb dX12_copiesTask_4 zci_0 ?_
  refine lv_aload_n hx hb dX12_copiesTask_5 rfl (lv_at hl 0 rfl) ?_
  refine va_get (D := (dC, dI)) (ci := 12) (v := .ref (a0 12)) (C := RX12) (T := TX12) (N := 67) hx hb hts zn_X12_copiesTask_X12 hown hK hP 0 rfl rfl 12 (of_decide_eq_true rfl) (hts (.fieldLink RX12 47 "ShortEnoughModel" "formats" "[I") zw_X12_copiesTask_994) (fun _ h9 => h9) rfl dX12_copiesTask_6 ?_
  refine lv_iconst (v := 1) hx hb dX12_copiesTask_9 zci_1 ?_
  refine va_iald hx hb hK hP 1 0 rfl rfl (zv_in (by decide +kernel)) dX12_copiesTask_10 ?_
  refine va_iast hx hb hK hP hD hS 1 0 rfl rfl (zv_in (by decide +kernel)) dX12_copiesTask_11 (fun H locs hP hD hS => ?_)
  obtain ⟨g_1, eg_1⟩ : ∃ g : Nat → Int32, g = (upd f1 (0 : Int32).toNatClampNeg (f1 (1 : Int32).toNatClampNeg)) := ⟨_, rfl⟩
  have hfn := zn_s hfn eg_1
  have hP : va_P (dC, dI) vwCl [(h0, .inr (12, zO a0 b0 c0)), zVi (a0 12) k1 2 g_1, zVi (a0 17) k2 2 f2, zVi (a0 24) k3 2 f3, zVi (a0 13) k4 8 f4, zVi (a0 14) k5 8 f5, zVi (a0 15) k6 8 f6, zVi (a0 16) k7 8 f7, zVi (a0 18) k8 28 f8, zVi (a0 19) k9 28 f9, zVi (a0 20) k10 28 f10, zVi (a0 21) k11 28 f11, zVl (a0 22) k12 28 f12, zVl (a0 23) k13 28 f13, zVi (a0 25) k14 28 f14, zVi (a0 26) k15 28 f15, zVi (a0 27) k16 28 f16] H := by rw [eg_1]; exact hP
  have hD : va_D A [(h0, .inr (12, zO a0 b0 c0)), zVi (a0 12) k1 2 g_1, zVi (a0 17) k2 2 f2, zVi (a0 24) k3 2 f3, zVi (a0 13) k4 8 f4, zVi (a0 14) k5 8 f5, zVi (a0 15) k6 8 f6, zVi (a0 16) k7 8 f7, zVi (a0 18) k8 28 f8, zVi (a0 19) k9 28 f9, zVi (a0 20) k10 28 f10, zVi (a0 21) k11 28 f11, zVl (a0 22) k12 28 f12, zVl (a0 23) k13 28 f13, zVi (a0 25) k14 28 f14, zVi (a0 26) k15 28 f15, zVi (a0 27) k16 28 f16] := by rw [eg_1]; exact hD
  refine lv_aload_n hx hb dX12_copiesTask_12 rfl (lv_at hl 0 rfl) ?_
  refine va_get (D := (dC, dI)) (ci := 12) (v := .ref (a0 17)) (C := RX12) (T := TX12) (N := 67) hx hb hts zn_X12_copiesTask_X12 hown hK hP 0 rfl rfl 17 (of_decide_eq_true rfl) (hts (.fieldLink RX12 62 "ShortEnoughModel" "numbers" "[I") zw_X12_copiesTask_995) (fun _ h9 => h9) rfl dX12_copiesTask_13 ?_
  refine lv_iconst (v := 0) hx hb dX12_copiesTask_16 zci_0 ?_
  refine lv_aload_n hx hb dX12_copiesTask_17 rfl (lv_at hl 0 rfl) ?_
  refine va_get (D := (dC, dI)) (ci := 12) (v := .ref (a0 17)) (C := RX12) (T := TX12) (N := 67) hx hb hts zn_X12_copiesTask_X12 hown hK hP 0 rfl rfl 17 (of_decide_eq_true rfl) (hts (.fieldLink RX12 62 "ShortEnoughModel" "numbers" "[I") zw_X12_copiesTask_995) (fun _ h9 => h9) rfl dX12_copiesTask_18 ?_
  refine lv_iconst (v := 1) hx hb dX12_copiesTask_21 zci_1 ?_
  refine va_iald hx hb hK hP 2 1 rfl rfl (zv_in (by decide +kernel)) dX12_copiesTask_22 ?_
  refine va_iast hx hb hK hP hD hS 2 1 rfl rfl (zv_in (by decide +kernel)) dX12_copiesTask_23 (fun H locs hP hD hS => ?_)
  obtain ⟨g_2, eg_2⟩ : ∃ g : Nat → Int32, g = (upd f2 (0 : Int32).toNatClampNeg (f2 (1 : Int32).toNatClampNeg)) := ⟨_, rfl⟩
  have hfn := zn_s hfn eg_2
  have hP : va_P (dC, dI) vwCl [(h0, .inr (12, zO a0 b0 c0)), zVi (a0 12) k1 2 g_1, zVi (a0 17) k2 2 g_2, zVi (a0 24) k3 2 f3, zVi (a0 13) k4 8 f4, zVi (a0 14) k5 8 f5, zVi (a0 15) k6 8 f6, zVi (a0 16) k7 8 f7, zVi (a0 18) k8 28 f8, zVi (a0 19) k9 28 f9, zVi (a0 20) k10 28 f10, zVi (a0 21) k11 28 f11, zVl (a0 22) k12 28 f12, zVl (a0 23) k13 28 f13, zVi (a0 25) k14 28 f14, zVi (a0 26) k15 28 f15, zVi (a0 27) k16 28 f16] H := by rw [eg_2]; exact hP
  have hD : va_D A [(h0, .inr (12, zO a0 b0 c0)), zVi (a0 12) k1 2 g_1, zVi (a0 17) k2 2 g_2, zVi (a0 24) k3 2 f3, zVi (a0 13) k4 8 f4, zVi (a0 14) k5 8 f5, zVi (a0 15) k6 8 f6, zVi (a0 16) k7 8 f7, zVi (a0 18) k8 28 f8, zVi (a0 19) k9 28 f9, zVi (a0 20) k10 28 f10, zVi (a0 21) k11 28 f11, zVl (a0 22) k12 28 f12, zVl (a0 23) k13 28 f13, zVi (a0 25) k14 28 f14, zVi (a0 26) k15 28 f15, zVi (a0 27) k16 28 f16] := by rw [eg_2]; exact hD
  refine lv_aload_n hx hb dX12_copiesTask_24 rfl (lv_at hl 0 rfl) ?_
  refine va_get (D := (dC, dI)) (ci := 12) (v := .ref (a0 24)) (C := RX12) (T := TX12) (N := 67) hx hb hts zn_X12_copiesTask_X12 hown hK hP 0 rfl rfl 24 (of_decide_eq_true rfl) (hts (.fieldLink RX12 84 "ShortEnoughModel" "castCost" "[I") zw_X12_copiesTask_996) (fun _ h9 => h9) rfl dX12_copiesTask_25 ?_
  refine lv_iconst (v := 0) hx hb dX12_copiesTask_28 zci_0 ?_
  refine lv_aload_n hx hb dX12_copiesTask_29 rfl (lv_at hl 0 rfl) ?_
  refine va_get (D := (dC, dI)) (ci := 12) (v := .ref (a0 24)) (C := RX12) (T := TX12) (N := 67) hx hb hts zn_X12_copiesTask_X12 hown hK hP 0 rfl rfl 24 (of_decide_eq_true rfl) (hts (.fieldLink RX12 84 "ShortEnoughModel" "castCost" "[I") zw_X12_copiesTask_996) (fun _ h9 => h9) rfl dX12_copiesTask_30 ?_
  refine lv_iconst (v := 1) hx hb dX12_copiesTask_33 zci_1 ?_
  refine va_iald hx hb hK hP 3 2 rfl rfl (zv_in (by decide +kernel)) dX12_copiesTask_34 ?_
  refine va_iast hx hb hK hP hD hS 3 2 rfl rfl (zv_in (by decide +kernel)) dX12_copiesTask_35 (fun H locs hP hD hS => ?_)
  obtain ⟨g_3, eg_3⟩ : ∃ g : Nat → Int32, g = (upd f3 (0 : Int32).toNatClampNeg (f3 (1 : Int32).toNatClampNeg)) := ⟨_, rfl⟩
  have hfn := zn_s hfn eg_3
  have hP : va_P (dC, dI) vwCl [(h0, .inr (12, zO a0 b0 c0)), zVi (a0 12) k1 2 g_1, zVi (a0 17) k2 2 g_2, zVi (a0 24) k3 2 g_3, zVi (a0 13) k4 8 f4, zVi (a0 14) k5 8 f5, zVi (a0 15) k6 8 f6, zVi (a0 16) k7 8 f7, zVi (a0 18) k8 28 f8, zVi (a0 19) k9 28 f9, zVi (a0 20) k10 28 f10, zVi (a0 21) k11 28 f11, zVl (a0 22) k12 28 f12, zVl (a0 23) k13 28 f13, zVi (a0 25) k14 28 f14, zVi (a0 26) k15 28 f15, zVi (a0 27) k16 28 f16] H := by rw [eg_3]; exact hP
  have hD : va_D A [(h0, .inr (12, zO a0 b0 c0)), zVi (a0 12) k1 2 g_1, zVi (a0 17) k2 2 g_2, zVi (a0 24) k3 2 g_3, zVi (a0 13) k4 8 f4, zVi (a0 14) k5 8 f5, zVi (a0 15) k6 8 f6, zVi (a0 16) k7 8 f7, zVi (a0 18) k8 28 f8, zVi (a0 19) k9 28 f9, zVi (a0 20) k10 28 f10, zVi (a0 21) k11 28 f11, zVl (a0 22) k12 28 f12, zVl (a0 23) k13 28 f13, zVi (a0 25) k14 28 f14, zVi (a0 26) k15 28 f15, zVi (a0 27) k16 28 f16] := by rw [eg_3]; exact hD
  refine lv_iconst (v := 0) hx hb dX12_copiesTask_36 zci_0 ?_
  refine lv_istore_n (lv' := [(1, .int 0), (0, .ref h0)]) hx hb dX12_copiesTask_37 rfl hl (of_decide_eq_true rfl) rfl (fun ls hl => ?_)
  obtain ⟨bd_4, ebd_4, hfn⟩ := zl_g hfn
  have lp_4 : ∀ (n : Nat) (s_4 : Int32 × (Nat → Int32) × (Nat → Int32) × (Nat → Int32) × (Nat → Int32)) (H : Heap) (locs : List Loc) (ls : Array Slot), zl bd_4 n s_4 = some o → va_P (dC, dI) vwCl [(h0, .inr (12, zO a0 b0 c0)), zVi (a0 12) k1 2 g_1, zVi (a0 17) k2 2 g_2, zVi (a0 24) k3 2 g_3, zVi (a0 13) k4 8 s_4.2.1, zVi (a0 14) k5 8 s_4.2.2.1, zVi (a0 15) k6 8 s_4.2.2.2.1, zVi (a0 16) k7 8 s_4.2.2.2.2, zVi (a0 18) k8 28 f8, zVi (a0 19) k9 28 f9, zVi (a0 20) k10 28 f10, zVi (a0 21) k11 28 f11, zVl (a0 22) k12 28 f12, zVl (a0 23) k13 28 f13, zVi (a0 25) k14 28 f14, zVi (a0 26) k15 28 f15, zVi (a0 27) k16 28 f16] H → va_D A [(h0, .inr (12, zO a0 b0 c0)), zVi (a0 12) k1 2 g_1, zVi (a0 17) k2 2 g_2, zVi (a0 24) k3 2 g_3, zVi (a0 13) k4 8 s_4.2.1, zVi (a0 14) k5 8 s_4.2.2.1, zVi (a0 15) k6 8 s_4.2.2.2.1, zVi (a0 16) k7 8 s_4.2.2.2.2, zVi (a0 18) k8 28 f8, zVi (a0 19) k9 28 f9, zVi (a0 20) k10 28 f10, zVi (a0 21) k11 28 f11, zVl (a0 22) k12 28 f12, zVl (a0 23) k13 28 f13, zVi (a0 25) k14 28 f14, zVi (a0 26) k15 28 f15, zVi (a0 27) k16 28 f16] → va_S A s.heap H locs → lv_has ls 3 [(1, .int s_4.1), (0, .ref h0)] → W p l e (headSpec wsX12_copiesTask ({ frames := 0, cells := 0, slots := 0, locals := 0 })).room s m ([.ref h0] : List Value).toArray below meth c H locs 0 0 Q (F0 m 38 ls []) := by
    intro n
    induction n with
    | zero => exact fun _ _ _ _ hfn => (zl_0 hfn).elim
    | succ n ih_4 =>
      intro s_4 H locs ls hfn hP hD hS hl
      have hfn := zl_s ebd_4 hfn
      refine lv_iload_n hx hb dX12_copiesTask_38 rfl (lv_at hl 0 rfl) ?_
      refine lv_iconst (v := 4) hx hb dX12_copiesTask_39 zci_4 ?_
      refine lv_icmp_ge (tgt := 105) hx hb dX12_copiesTask_40 (of_decide_eq_true rfl) (fun c_5 => ?_) (fun c_5 => ?_)
      · have hfn := (if_pos c_5).symm.trans hfn
        refine lv_iconst (v := 0) hx hb dX12_copiesTask_105 zci_0 ?_
        refine lv_istore_n (lv' := [(1, .int 0), (0, .ref h0)]) hx hb dX12_copiesTask_106 rfl hl (of_decide_eq_true rfl) rfl (fun ls hl => ?_)
        obtain ⟨bd_6, ebd_6, hfn⟩ := zl_g hfn
        have lp_6 : ∀ (n : Nat) (s_6 : Int32 × (Nat → Int32) × (Nat → Int32) × (Nat → Int32) × (Nat → Int32) × (Nat → Int64) × (Nat → Int64) × (Nat → Int32) × (Nat → Int32) × (Nat → Int32)) (H : Heap) (locs : List Loc) (ls : Array Slot), zl bd_6 n s_6 = some o → va_P (dC, dI) vwCl [(h0, .inr (12, zO a0 b0 c0)), zVi (a0 12) k1 2 g_1, zVi (a0 17) k2 2 g_2, zVi (a0 24) k3 2 g_3, zVi (a0 13) k4 8 s_4.2.1, zVi (a0 14) k5 8 s_4.2.2.1, zVi (a0 15) k6 8 s_4.2.2.2.1, zVi (a0 16) k7 8 s_4.2.2.2.2, zVi (a0 18) k8 28 s_6.2.1, zVi (a0 19) k9 28 s_6.2.2.1, zVi (a0 20) k10 28 s_6.2.2.2.1, zVi (a0 21) k11 28 s_6.2.2.2.2.1, zVl (a0 22) k12 28 s_6.2.2.2.2.2.1, zVl (a0 23) k13 28 s_6.2.2.2.2.2.2.1, zVi (a0 25) k14 28 s_6.2.2.2.2.2.2.2.1, zVi (a0 26) k15 28 s_6.2.2.2.2.2.2.2.2.1, zVi (a0 27) k16 28 s_6.2.2.2.2.2.2.2.2.2] H → va_D A [(h0, .inr (12, zO a0 b0 c0)), zVi (a0 12) k1 2 g_1, zVi (a0 17) k2 2 g_2, zVi (a0 24) k3 2 g_3, zVi (a0 13) k4 8 s_4.2.1, zVi (a0 14) k5 8 s_4.2.2.1, zVi (a0 15) k6 8 s_4.2.2.2.1, zVi (a0 16) k7 8 s_4.2.2.2.2, zVi (a0 18) k8 28 s_6.2.1, zVi (a0 19) k9 28 s_6.2.2.1, zVi (a0 20) k10 28 s_6.2.2.2.1, zVi (a0 21) k11 28 s_6.2.2.2.2.1, zVl (a0 22) k12 28 s_6.2.2.2.2.2.1, zVl (a0 23) k13 28 s_6.2.2.2.2.2.2.1, zVi (a0 25) k14 28 s_6.2.2.2.2.2.2.2.1, zVi (a0 26) k15 28 s_6.2.2.2.2.2.2.2.2.1, zVi (a0 27) k16 28 s_6.2.2.2.2.2.2.2.2.2] → va_S A s.heap H locs → lv_has ls 3 [(1, .int s_6.1), (0, .ref h0)] → W p l e (headSpec wsX12_copiesTask ({ frames := 0, cells := 0, slots := 0, locals := 0 })).room s m ([.ref h0] : List Value).toArray below meth c H locs 0 0 Q (F0 m 107 ls []) := by
          intro n
          induction n with
          | zero => exact fun _ _ _ _ hfn => (zl_0 hfn).elim
          | succ n ih_6 =>
            intro s_6 H locs ls hfn hP hD hS hl
            have hfn := zl_s ebd_6 hfn
            refine lv_iload_n hx hb dX12_copiesTask_107 rfl (lv_at hl 0 rfl) ?_
            refine lv_bipush (v := 14) hx hb dX12_copiesTask_108 zcb_14 ?_
            refine lv_icmp_ge (tgt := 232) hx hb dX12_copiesTask_110 (of_decide_eq_true rfl) (fun c_7 => ?_) (fun c_7 => ?_)
            · have hfn := (if_pos c_7).symm.trans hfn
              have ho := Option.some.inj hfn
              subst ho
              exact zrv hx hb hr hK hP hD hS hQ trivial hlocks dX12_copiesTask_232
            have hfn := (if_neg c_7).symm.trans hfn
            refine lv_bipush (v := 14) hx hb dX12_copiesTask_113 zcb_14 ?_
            refine lv_iload_n hx hb dX12_copiesTask_115 rfl (lv_at hl 0 rfl) ?_
            refine lv_iadd hx hb dX12_copiesTask_116 ?_
            refine lv_istore_n (lv' := [(2, .int (14 + s_6.1)), (1, .int s_6.1), (0, .ref h0)]) hx hb dX12_copiesTask_117 rfl hl (of_decide_eq_true rfl) rfl (fun ls hl => ?_)
            refine lv_aload_n hx hb dX12_copiesTask_118 rfl (lv_at hl 2 rfl) ?_
            refine va_get (D := (dC, dI)) (ci := 12) (v := .ref (a0 18)) (C := RX12) (T := TX12) (N := 67) hx hb hts zn_X12_copiesTask_X12 hown hK hP 0 rfl rfl 18 (of_decide_eq_true rfl) (hts (.fieldLink RX12 65 "ShortEnoughModel" "numberName" "[I") zw_X12_copiesTask_1001) (fun _ h9 => h9) rfl dX12_copiesTask_119 ?_
            refine lv_iload_n hx hb dX12_copiesTask_122 rfl (lv_at hl 1 rfl) ?_
            refine lv_aload_n hx hb dX12_copiesTask_123 rfl (lv_at hl 2 rfl) ?_
            refine va_get (D := (dC, dI)) (ci := 12) (v := .ref (a0 18)) (C := RX12) (T := TX12) (N := 67) hx hb hts zn_X12_copiesTask_X12 hown hK hP 0 rfl rfl 18 (of_decide_eq_true rfl) (hts (.fieldLink RX12 65 "ShortEnoughModel" "numberName" "[I") zw_X12_copiesTask_1001) (fun _ h9 => h9) rfl dX12_copiesTask_124 ?_
            refine lv_iload_n hx hb dX12_copiesTask_127 rfl (lv_at hl 0 rfl) ?_
            obtain ⟨h_8, hfn⟩ := zg_s hfn
            refine va_iald hx hb hK hP 8 7 rfl rfl h_8 dX12_copiesTask_128 ?_
            obtain ⟨h_9, hfn⟩ := zg_s hfn
            refine va_iast hx hb hK hP hD hS 8 7 rfl rfl h_9 dX12_copiesTask_129 (fun H locs hP hD hS => ?_)
            obtain ⟨g_10, eg_10⟩ : ∃ g : Nat → Int32, g = (upd s_6.2.1 s_6.1.toNatClampNeg (s_6.2.1 (14 + s_6.1).toNatClampNeg)) := ⟨_, rfl⟩
            have hfn := zn_s hfn eg_10
            have hP : va_P (dC, dI) vwCl [(h0, .inr (12, zO a0 b0 c0)), zVi (a0 12) k1 2 g_1, zVi (a0 17) k2 2 g_2, zVi (a0 24) k3 2 g_3, zVi (a0 13) k4 8 s_4.2.1, zVi (a0 14) k5 8 s_4.2.2.1, zVi (a0 15) k6 8 s_4.2.2.2.1, zVi (a0 16) k7 8 s_4.2.2.2.2, zVi (a0 18) k8 28 g_10, zVi (a0 19) k9 28 s_6.2.2.1, zVi (a0 20) k10 28 s_6.2.2.2.1, zVi (a0 21) k11 28 s_6.2.2.2.2.1, zVl (a0 22) k12 28 s_6.2.2.2.2.2.1, zVl (a0 23) k13 28 s_6.2.2.2.2.2.2.1, zVi (a0 25) k14 28 s_6.2.2.2.2.2.2.2.1, zVi (a0 26) k15 28 s_6.2.2.2.2.2.2.2.2.1, zVi (a0 27) k16 28 s_6.2.2.2.2.2.2.2.2.2] H := by rw [eg_10]; exact hP
            have hD : va_D A [(h0, .inr (12, zO a0 b0 c0)), zVi (a0 12) k1 2 g_1, zVi (a0 17) k2 2 g_2, zVi (a0 24) k3 2 g_3, zVi (a0 13) k4 8 s_4.2.1, zVi (a0 14) k5 8 s_4.2.2.1, zVi (a0 15) k6 8 s_4.2.2.2.1, zVi (a0 16) k7 8 s_4.2.2.2.2, zVi (a0 18) k8 28 g_10, zVi (a0 19) k9 28 s_6.2.2.1, zVi (a0 20) k10 28 s_6.2.2.2.1, zVi (a0 21) k11 28 s_6.2.2.2.2.1, zVl (a0 22) k12 28 s_6.2.2.2.2.2.1, zVl (a0 23) k13 28 s_6.2.2.2.2.2.2.1, zVi (a0 25) k14 28 s_6.2.2.2.2.2.2.2.1, zVi (a0 26) k15 28 s_6.2.2.2.2.2.2.2.2.1, zVi (a0 27) k16 28 s_6.2.2.2.2.2.2.2.2.2] := by rw [eg_10]; exact hD
            refine lv_aload_n hx hb dX12_copiesTask_130 rfl (lv_at hl 2 rfl) ?_
            refine va_get (D := (dC, dI)) (ci := 12) (v := .ref (a0 19)) (C := RX12) (T := TX12) (N := 67) hx hb hts zn_X12_copiesTask_X12 hown hK hP 0 rfl rfl 19 (of_decide_eq_true rfl) (hts (.fieldLink RX12 68 "ShortEnoughModel" "op" "[I") zw_X12_copiesTask_1002) (fun _ h9 => h9) rfl dX12_copiesTask_131 ?_
            refine lv_iload_n hx hb dX12_copiesTask_134 rfl (lv_at hl 1 rfl) ?_
            refine lv_aload_n hx hb dX12_copiesTask_135 rfl (lv_at hl 2 rfl) ?_
            refine va_get (D := (dC, dI)) (ci := 12) (v := .ref (a0 19)) (C := RX12) (T := TX12) (N := 67) hx hb hts zn_X12_copiesTask_X12 hown hK hP 0 rfl rfl 19 (of_decide_eq_true rfl) (hts (.fieldLink RX12 68 "ShortEnoughModel" "op" "[I") zw_X12_copiesTask_1002) (fun _ h9 => h9) rfl dX12_copiesTask_136 ?_
            refine lv_iload_n hx hb dX12_copiesTask_139 rfl (lv_at hl 0 rfl) ?_
            refine va_iald hx hb hK hP 9 8 rfl rfl h_8 dX12_copiesTask_140 ?_
            refine va_iast hx hb hK hP hD hS 9 8 rfl rfl h_9 dX12_copiesTask_141 (fun H locs hP hD hS => ?_)
            obtain ⟨g_11, eg_11⟩ : ∃ g : Nat → Int32, g = (upd s_6.2.2.1 s_6.1.toNatClampNeg (s_6.2.2.1 (14 + s_6.1).toNatClampNeg)) := ⟨_, rfl⟩
            have hfn := zn_s hfn eg_11
            have hP : va_P (dC, dI) vwCl [(h0, .inr (12, zO a0 b0 c0)), zVi (a0 12) k1 2 g_1, zVi (a0 17) k2 2 g_2, zVi (a0 24) k3 2 g_3, zVi (a0 13) k4 8 s_4.2.1, zVi (a0 14) k5 8 s_4.2.2.1, zVi (a0 15) k6 8 s_4.2.2.2.1, zVi (a0 16) k7 8 s_4.2.2.2.2, zVi (a0 18) k8 28 g_10, zVi (a0 19) k9 28 g_11, zVi (a0 20) k10 28 s_6.2.2.2.1, zVi (a0 21) k11 28 s_6.2.2.2.2.1, zVl (a0 22) k12 28 s_6.2.2.2.2.2.1, zVl (a0 23) k13 28 s_6.2.2.2.2.2.2.1, zVi (a0 25) k14 28 s_6.2.2.2.2.2.2.2.1, zVi (a0 26) k15 28 s_6.2.2.2.2.2.2.2.2.1, zVi (a0 27) k16 28 s_6.2.2.2.2.2.2.2.2.2] H := by rw [eg_11]; exact hP
            have hD : va_D A [(h0, .inr (12, zO a0 b0 c0)), zVi (a0 12) k1 2 g_1, zVi (a0 17) k2 2 g_2, zVi (a0 24) k3 2 g_3, zVi (a0 13) k4 8 s_4.2.1, zVi (a0 14) k5 8 s_4.2.2.1, zVi (a0 15) k6 8 s_4.2.2.2.1, zVi (a0 16) k7 8 s_4.2.2.2.2, zVi (a0 18) k8 28 g_10, zVi (a0 19) k9 28 g_11, zVi (a0 20) k10 28 s_6.2.2.2.1, zVi (a0 21) k11 28 s_6.2.2.2.2.1, zVl (a0 22) k12 28 s_6.2.2.2.2.2.1, zVl (a0 23) k13 28 s_6.2.2.2.2.2.2.1, zVi (a0 25) k14 28 s_6.2.2.2.2.2.2.2.1, zVi (a0 26) k15 28 s_6.2.2.2.2.2.2.2.2.1, zVi (a0 27) k16 28 s_6.2.2.2.2.2.2.2.2.2] := by rw [eg_11]; exact hD
            refine lv_aload_n hx hb dX12_copiesTask_142 rfl (lv_at hl 2 rfl) ?_
            refine va_get (D := (dC, dI)) (ci := 12) (v := .ref (a0 20)) (C := RX12) (T := TX12) (N := 67) hx hb hts zn_X12_copiesTask_X12 hown hK hP 0 rfl rfl 20 (of_decide_eq_true rfl) (hts (.fieldLink RX12 71 "ShortEnoughModel" "first" "[I") zw_X12_copiesTask_1003) (fun _ h9 => h9) rfl dX12_copiesTask_143 ?_
            refine lv_iload_n hx hb dX12_copiesTask_146 rfl (lv_at hl 1 rfl) ?_
            refine lv_aload_n hx hb dX12_copiesTask_147 rfl (lv_at hl 2 rfl) ?_
            refine va_get (D := (dC, dI)) (ci := 12) (v := .ref (a0 20)) (C := RX12) (T := TX12) (N := 67) hx hb hts zn_X12_copiesTask_X12 hown hK hP 0 rfl rfl 20 (of_decide_eq_true rfl) (hts (.fieldLink RX12 71 "ShortEnoughModel" "first" "[I") zw_X12_copiesTask_1003) (fun _ h9 => h9) rfl dX12_copiesTask_148 ?_
            refine lv_iload_n hx hb dX12_copiesTask_151 rfl (lv_at hl 0 rfl) ?_
            refine va_iald hx hb hK hP 10 9 rfl rfl h_8 dX12_copiesTask_152 ?_
            refine va_iast hx hb hK hP hD hS 10 9 rfl rfl h_9 dX12_copiesTask_153 (fun H locs hP hD hS => ?_)
            obtain ⟨g_12, eg_12⟩ : ∃ g : Nat → Int32, g = (upd s_6.2.2.2.1 s_6.1.toNatClampNeg (s_6.2.2.2.1 (14 + s_6.1).toNatClampNeg)) := ⟨_, rfl⟩
            have hfn := zn_s hfn eg_12
            have hP : va_P (dC, dI) vwCl [(h0, .inr (12, zO a0 b0 c0)), zVi (a0 12) k1 2 g_1, zVi (a0 17) k2 2 g_2, zVi (a0 24) k3 2 g_3, zVi (a0 13) k4 8 s_4.2.1, zVi (a0 14) k5 8 s_4.2.2.1, zVi (a0 15) k6 8 s_4.2.2.2.1, zVi (a0 16) k7 8 s_4.2.2.2.2, zVi (a0 18) k8 28 g_10, zVi (a0 19) k9 28 g_11, zVi (a0 20) k10 28 g_12, zVi (a0 21) k11 28 s_6.2.2.2.2.1, zVl (a0 22) k12 28 s_6.2.2.2.2.2.1, zVl (a0 23) k13 28 s_6.2.2.2.2.2.2.1, zVi (a0 25) k14 28 s_6.2.2.2.2.2.2.2.1, zVi (a0 26) k15 28 s_6.2.2.2.2.2.2.2.2.1, zVi (a0 27) k16 28 s_6.2.2.2.2.2.2.2.2.2] H := by rw [eg_12]; exact hP
            have hD : va_D A [(h0, .inr (12, zO a0 b0 c0)), zVi (a0 12) k1 2 g_1, zVi (a0 17) k2 2 g_2, zVi (a0 24) k3 2 g_3, zVi (a0 13) k4 8 s_4.2.1, zVi (a0 14) k5 8 s_4.2.2.1, zVi (a0 15) k6 8 s_4.2.2.2.1, zVi (a0 16) k7 8 s_4.2.2.2.2, zVi (a0 18) k8 28 g_10, zVi (a0 19) k9 28 g_11, zVi (a0 20) k10 28 g_12, zVi (a0 21) k11 28 s_6.2.2.2.2.1, zVl (a0 22) k12 28 s_6.2.2.2.2.2.1, zVl (a0 23) k13 28 s_6.2.2.2.2.2.2.1, zVi (a0 25) k14 28 s_6.2.2.2.2.2.2.2.1, zVi (a0 26) k15 28 s_6.2.2.2.2.2.2.2.2.1, zVi (a0 27) k16 28 s_6.2.2.2.2.2.2.2.2.2] := by rw [eg_12]; exact hD
            refine lv_aload_n hx hb dX12_copiesTask_154 rfl (lv_at hl 2 rfl) ?_
            refine va_get (D := (dC, dI)) (ci := 12) (v := .ref (a0 21)) (C := RX12) (T := TX12) (N := 67) hx hb hts zn_X12_copiesTask_X12 hown hK hP 0 rfl rfl 21 (of_decide_eq_true rfl) (hts (.fieldLink RX12 74 "ShortEnoughModel" "second" "[I") zw_X12_copiesTask_1004) (fun _ h9 => h9) rfl dX12_copiesTask_155 ?_
            refine lv_iload_n hx hb dX12_copiesTask_158 rfl (lv_at hl 1 rfl) ?_
            refine lv_aload_n hx hb dX12_copiesTask_159 rfl (lv_at hl 2 rfl) ?_
            refine va_get (D := (dC, dI)) (ci := 12) (v := .ref (a0 21)) (C := RX12) (T := TX12) (N := 67) hx hb hts zn_X12_copiesTask_X12 hown hK hP 0 rfl rfl 21 (of_decide_eq_true rfl) (hts (.fieldLink RX12 74 "ShortEnoughModel" "second" "[I") zw_X12_copiesTask_1004) (fun _ h9 => h9) rfl dX12_copiesTask_160 ?_
            refine lv_iload_n hx hb dX12_copiesTask_163 rfl (lv_at hl 0 rfl) ?_
            refine va_iald hx hb hK hP 11 10 rfl rfl h_8 dX12_copiesTask_164 ?_
            refine va_iast hx hb hK hP hD hS 11 10 rfl rfl h_9 dX12_copiesTask_165 (fun H locs hP hD hS => ?_)
            obtain ⟨g_13, eg_13⟩ : ∃ g : Nat → Int32, g = (upd s_6.2.2.2.2.1 s_6.1.toNatClampNeg (s_6.2.2.2.2.1 (14 + s_6.1).toNatClampNeg)) := ⟨_, rfl⟩
            have hfn := zn_s hfn eg_13
            have hP : va_P (dC, dI) vwCl [(h0, .inr (12, zO a0 b0 c0)), zVi (a0 12) k1 2 g_1, zVi (a0 17) k2 2 g_2, zVi (a0 24) k3 2 g_3, zVi (a0 13) k4 8 s_4.2.1, zVi (a0 14) k5 8 s_4.2.2.1, zVi (a0 15) k6 8 s_4.2.2.2.1, zVi (a0 16) k7 8 s_4.2.2.2.2, zVi (a0 18) k8 28 g_10, zVi (a0 19) k9 28 g_11, zVi (a0 20) k10 28 g_12, zVi (a0 21) k11 28 g_13, zVl (a0 22) k12 28 s_6.2.2.2.2.2.1, zVl (a0 23) k13 28 s_6.2.2.2.2.2.2.1, zVi (a0 25) k14 28 s_6.2.2.2.2.2.2.2.1, zVi (a0 26) k15 28 s_6.2.2.2.2.2.2.2.2.1, zVi (a0 27) k16 28 s_6.2.2.2.2.2.2.2.2.2] H := by rw [eg_13]; exact hP
            have hD : va_D A [(h0, .inr (12, zO a0 b0 c0)), zVi (a0 12) k1 2 g_1, zVi (a0 17) k2 2 g_2, zVi (a0 24) k3 2 g_3, zVi (a0 13) k4 8 s_4.2.1, zVi (a0 14) k5 8 s_4.2.2.1, zVi (a0 15) k6 8 s_4.2.2.2.1, zVi (a0 16) k7 8 s_4.2.2.2.2, zVi (a0 18) k8 28 g_10, zVi (a0 19) k9 28 g_11, zVi (a0 20) k10 28 g_12, zVi (a0 21) k11 28 g_13, zVl (a0 22) k12 28 s_6.2.2.2.2.2.1, zVl (a0 23) k13 28 s_6.2.2.2.2.2.2.1, zVi (a0 25) k14 28 s_6.2.2.2.2.2.2.2.1, zVi (a0 26) k15 28 s_6.2.2.2.2.2.2.2.2.1, zVi (a0 27) k16 28 s_6.2.2.2.2.2.2.2.2.2] := by rw [eg_13]; exact hD
            refine lv_aload_n hx hb dX12_copiesTask_166 rfl (lv_at hl 2 rfl) ?_
            refine va_get (D := (dC, dI)) (ci := 12) (v := .ref (a0 22)) (C := RX12) (T := TX12) (N := 67) hx hb hts zn_X12_copiesTask_X12 hown hK hP 0 rfl rfl 22 (of_decide_eq_true rfl) (hts (.fieldLink RX12 77 "ShortEnoughModel" "firstV" "[J") zw_X12_copiesTask_1005) (fun _ h9 => h9) rfl dX12_copiesTask_167 ?_
            refine lv_iload_n hx hb dX12_copiesTask_170 rfl (lv_at hl 1 rfl) ?_
            refine lv_aload_n hx hb dX12_copiesTask_171 rfl (lv_at hl 2 rfl) ?_
            refine va_get (D := (dC, dI)) (ci := 12) (v := .ref (a0 22)) (C := RX12) (T := TX12) (N := 67) hx hb hts zn_X12_copiesTask_X12 hown hK hP 0 rfl rfl 22 (of_decide_eq_true rfl) (hts (.fieldLink RX12 77 "ShortEnoughModel" "firstV" "[J") zw_X12_copiesTask_1005) (fun _ h9 => h9) rfl dX12_copiesTask_172 ?_
            refine lv_iload_n hx hb dX12_copiesTask_175 rfl (lv_at hl 0 rfl) ?_
            refine va_lald hx hb hK hP 12 11 rfl rfl h_8 dX12_copiesTask_176 ?_
            refine va_last hx hb hK hP hD hS 12 11 rfl rfl h_9 dX12_copiesTask_177 (fun H locs hP hD hS => ?_)
            obtain ⟨g_14, eg_14⟩ : ∃ g : Nat → Int64, g = (vp_updL s_6.2.2.2.2.2.1 s_6.1.toNatClampNeg (s_6.2.2.2.2.2.1 (14 + s_6.1).toNatClampNeg)) := ⟨_, rfl⟩
            have hfn := zn_s hfn eg_14
            have hP : va_P (dC, dI) vwCl [(h0, .inr (12, zO a0 b0 c0)), zVi (a0 12) k1 2 g_1, zVi (a0 17) k2 2 g_2, zVi (a0 24) k3 2 g_3, zVi (a0 13) k4 8 s_4.2.1, zVi (a0 14) k5 8 s_4.2.2.1, zVi (a0 15) k6 8 s_4.2.2.2.1, zVi (a0 16) k7 8 s_4.2.2.2.2, zVi (a0 18) k8 28 g_10, zVi (a0 19) k9 28 g_11, zVi (a0 20) k10 28 g_12, zVi (a0 21) k11 28 g_13, zVl (a0 22) k12 28 g_14, zVl (a0 23) k13 28 s_6.2.2.2.2.2.2.1, zVi (a0 25) k14 28 s_6.2.2.2.2.2.2.2.1, zVi (a0 26) k15 28 s_6.2.2.2.2.2.2.2.2.1, zVi (a0 27) k16 28 s_6.2.2.2.2.2.2.2.2.2] H := by rw [eg_14]; exact hP
            have hD : va_D A [(h0, .inr (12, zO a0 b0 c0)), zVi (a0 12) k1 2 g_1, zVi (a0 17) k2 2 g_2, zVi (a0 24) k3 2 g_3, zVi (a0 13) k4 8 s_4.2.1, zVi (a0 14) k5 8 s_4.2.2.1, zVi (a0 15) k6 8 s_4.2.2.2.1, zVi (a0 16) k7 8 s_4.2.2.2.2, zVi (a0 18) k8 28 g_10, zVi (a0 19) k9 28 g_11, zVi (a0 20) k10 28 g_12, zVi (a0 21) k11 28 g_13, zVl (a0 22) k12 28 g_14, zVl (a0 23) k13 28 s_6.2.2.2.2.2.2.1, zVi (a0 25) k14 28 s_6.2.2.2.2.2.2.2.1, zVi (a0 26) k15 28 s_6.2.2.2.2.2.2.2.2.1, zVi (a0 27) k16 28 s_6.2.2.2.2.2.2.2.2.2] := by rw [eg_14]; exact hD
            refine lv_aload_n hx hb dX12_copiesTask_178 rfl (lv_at hl 2 rfl) ?_
            refine va_get (D := (dC, dI)) (ci := 12) (v := .ref (a0 23)) (C := RX12) (T := TX12) (N := 67) hx hb hts zn_X12_copiesTask_X12 hown hK hP 0 rfl rfl 23 (of_decide_eq_true rfl) (hts (.fieldLink RX12 81 "ShortEnoughModel" "secondV" "[J") zw_X12_copiesTask_1006) (fun _ h9 => h9) rfl dX12_copiesTask_179 ?_
            refine lv_iload_n hx hb dX12_copiesTask_182 rfl (lv_at hl 1 rfl) ?_
            refine lv_aload_n hx hb dX12_copiesTask_183 rfl (lv_at hl 2 rfl) ?_
            refine va_get (D := (dC, dI)) (ci := 12) (v := .ref (a0 23)) (C := RX12) (T := TX12) (N := 67) hx hb hts zn_X12_copiesTask_X12 hown hK hP 0 rfl rfl 23 (of_decide_eq_true rfl) (hts (.fieldLink RX12 81 "ShortEnoughModel" "secondV" "[J") zw_X12_copiesTask_1006) (fun _ h9 => h9) rfl dX12_copiesTask_184 ?_
            refine lv_iload_n hx hb dX12_copiesTask_187 rfl (lv_at hl 0 rfl) ?_
            refine va_lald hx hb hK hP 13 12 rfl rfl h_8 dX12_copiesTask_188 ?_
            refine va_last hx hb hK hP hD hS 13 12 rfl rfl h_9 dX12_copiesTask_189 (fun H locs hP hD hS => ?_)
            obtain ⟨g_15, eg_15⟩ : ∃ g : Nat → Int64, g = (vp_updL s_6.2.2.2.2.2.2.1 s_6.1.toNatClampNeg (s_6.2.2.2.2.2.2.1 (14 + s_6.1).toNatClampNeg)) := ⟨_, rfl⟩
            have hfn := zn_s hfn eg_15
            have hP : va_P (dC, dI) vwCl [(h0, .inr (12, zO a0 b0 c0)), zVi (a0 12) k1 2 g_1, zVi (a0 17) k2 2 g_2, zVi (a0 24) k3 2 g_3, zVi (a0 13) k4 8 s_4.2.1, zVi (a0 14) k5 8 s_4.2.2.1, zVi (a0 15) k6 8 s_4.2.2.2.1, zVi (a0 16) k7 8 s_4.2.2.2.2, zVi (a0 18) k8 28 g_10, zVi (a0 19) k9 28 g_11, zVi (a0 20) k10 28 g_12, zVi (a0 21) k11 28 g_13, zVl (a0 22) k12 28 g_14, zVl (a0 23) k13 28 g_15, zVi (a0 25) k14 28 s_6.2.2.2.2.2.2.2.1, zVi (a0 26) k15 28 s_6.2.2.2.2.2.2.2.2.1, zVi (a0 27) k16 28 s_6.2.2.2.2.2.2.2.2.2] H := by rw [eg_15]; exact hP
            have hD : va_D A [(h0, .inr (12, zO a0 b0 c0)), zVi (a0 12) k1 2 g_1, zVi (a0 17) k2 2 g_2, zVi (a0 24) k3 2 g_3, zVi (a0 13) k4 8 s_4.2.1, zVi (a0 14) k5 8 s_4.2.2.1, zVi (a0 15) k6 8 s_4.2.2.2.1, zVi (a0 16) k7 8 s_4.2.2.2.2, zVi (a0 18) k8 28 g_10, zVi (a0 19) k9 28 g_11, zVi (a0 20) k10 28 g_12, zVi (a0 21) k11 28 g_13, zVl (a0 22) k12 28 g_14, zVl (a0 23) k13 28 g_15, zVi (a0 25) k14 28 s_6.2.2.2.2.2.2.2.1, zVi (a0 26) k15 28 s_6.2.2.2.2.2.2.2.2.1, zVi (a0 27) k16 28 s_6.2.2.2.2.2.2.2.2.2] := by rw [eg_15]; exact hD
            refine lv_aload_n hx hb dX12_copiesTask_190 rfl (lv_at hl 2 rfl) ?_
            refine va_get (D := (dC, dI)) (ci := 12) (v := .ref (a0 25)) (C := RX12) (T := TX12) (N := 67) hx hb hts zn_X12_copiesTask_X12 hown hK hP 0 rfl rfl 25 (of_decide_eq_true rfl) (hts (.fieldLink RX12 87 "ShortEnoughModel" "fixedAs" "[I") zw_X12_copiesTask_1007) (fun _ h9 => h9) rfl dX12_copiesTask_191 ?_
            refine lv_iload_n hx hb dX12_copiesTask_194 rfl (lv_at hl 1 rfl) ?_
            refine lv_aload_n hx hb dX12_copiesTask_195 rfl (lv_at hl 2 rfl) ?_
            refine va_get (D := (dC, dI)) (ci := 12) (v := .ref (a0 25)) (C := RX12) (T := TX12) (N := 67) hx hb hts zn_X12_copiesTask_X12 hown hK hP 0 rfl rfl 25 (of_decide_eq_true rfl) (hts (.fieldLink RX12 87 "ShortEnoughModel" "fixedAs" "[I") zw_X12_copiesTask_1007) (fun _ h9 => h9) rfl dX12_copiesTask_196 ?_
            refine lv_iload_n hx hb dX12_copiesTask_199 rfl (lv_at hl 0 rfl) ?_
            refine va_iald hx hb hK hP 14 13 rfl rfl h_8 dX12_copiesTask_200 ?_
            refine va_iast hx hb hK hP hD hS 14 13 rfl rfl h_9 dX12_copiesTask_201 (fun H locs hP hD hS => ?_)
            obtain ⟨g_16, eg_16⟩ : ∃ g : Nat → Int32, g = (upd s_6.2.2.2.2.2.2.2.1 s_6.1.toNatClampNeg (s_6.2.2.2.2.2.2.2.1 (14 + s_6.1).toNatClampNeg)) := ⟨_, rfl⟩
            have hfn := zn_s hfn eg_16
            have hP : va_P (dC, dI) vwCl [(h0, .inr (12, zO a0 b0 c0)), zVi (a0 12) k1 2 g_1, zVi (a0 17) k2 2 g_2, zVi (a0 24) k3 2 g_3, zVi (a0 13) k4 8 s_4.2.1, zVi (a0 14) k5 8 s_4.2.2.1, zVi (a0 15) k6 8 s_4.2.2.2.1, zVi (a0 16) k7 8 s_4.2.2.2.2, zVi (a0 18) k8 28 g_10, zVi (a0 19) k9 28 g_11, zVi (a0 20) k10 28 g_12, zVi (a0 21) k11 28 g_13, zVl (a0 22) k12 28 g_14, zVl (a0 23) k13 28 g_15, zVi (a0 25) k14 28 g_16, zVi (a0 26) k15 28 s_6.2.2.2.2.2.2.2.2.1, zVi (a0 27) k16 28 s_6.2.2.2.2.2.2.2.2.2] H := by rw [eg_16]; exact hP
            have hD : va_D A [(h0, .inr (12, zO a0 b0 c0)), zVi (a0 12) k1 2 g_1, zVi (a0 17) k2 2 g_2, zVi (a0 24) k3 2 g_3, zVi (a0 13) k4 8 s_4.2.1, zVi (a0 14) k5 8 s_4.2.2.1, zVi (a0 15) k6 8 s_4.2.2.2.1, zVi (a0 16) k7 8 s_4.2.2.2.2, zVi (a0 18) k8 28 g_10, zVi (a0 19) k9 28 g_11, zVi (a0 20) k10 28 g_12, zVi (a0 21) k11 28 g_13, zVl (a0 22) k12 28 g_14, zVl (a0 23) k13 28 g_15, zVi (a0 25) k14 28 g_16, zVi (a0 26) k15 28 s_6.2.2.2.2.2.2.2.2.1, zVi (a0 27) k16 28 s_6.2.2.2.2.2.2.2.2.2] := by rw [eg_16]; exact hD
            refine lv_aload_n hx hb dX12_copiesTask_202 rfl (lv_at hl 2 rfl) ?_
            refine va_get (D := (dC, dI)) (ci := 12) (v := .ref (a0 26)) (C := RX12) (T := TX12) (N := 67) hx hb hts zn_X12_copiesTask_X12 hown hK hP 0 rfl rfl 26 (of_decide_eq_true rfl) (hts (.fieldLink RX12 90 "ShortEnoughModel" "within" "[I") zw_X12_copiesTask_1008) (fun _ h9 => h9) rfl dX12_copiesTask_203 ?_
            refine lv_iload_n hx hb dX12_copiesTask_206 rfl (lv_at hl 1 rfl) ?_
            refine lv_aload_n hx hb dX12_copiesTask_207 rfl (lv_at hl 2 rfl) ?_
            refine va_get (D := (dC, dI)) (ci := 12) (v := .ref (a0 26)) (C := RX12) (T := TX12) (N := 67) hx hb hts zn_X12_copiesTask_X12 hown hK hP 0 rfl rfl 26 (of_decide_eq_true rfl) (hts (.fieldLink RX12 90 "ShortEnoughModel" "within" "[I") zw_X12_copiesTask_1008) (fun _ h9 => h9) rfl dX12_copiesTask_208 ?_
            refine lv_iload_n hx hb dX12_copiesTask_211 rfl (lv_at hl 0 rfl) ?_
            refine va_iald hx hb hK hP 15 14 rfl rfl h_8 dX12_copiesTask_212 ?_
            refine va_iast hx hb hK hP hD hS 15 14 rfl rfl h_9 dX12_copiesTask_213 (fun H locs hP hD hS => ?_)
            obtain ⟨g_17, eg_17⟩ : ∃ g : Nat → Int32, g = (upd s_6.2.2.2.2.2.2.2.2.1 s_6.1.toNatClampNeg (s_6.2.2.2.2.2.2.2.2.1 (14 + s_6.1).toNatClampNeg)) := ⟨_, rfl⟩
            have hfn := zn_s hfn eg_17
            have hP : va_P (dC, dI) vwCl [(h0, .inr (12, zO a0 b0 c0)), zVi (a0 12) k1 2 g_1, zVi (a0 17) k2 2 g_2, zVi (a0 24) k3 2 g_3, zVi (a0 13) k4 8 s_4.2.1, zVi (a0 14) k5 8 s_4.2.2.1, zVi (a0 15) k6 8 s_4.2.2.2.1, zVi (a0 16) k7 8 s_4.2.2.2.2, zVi (a0 18) k8 28 g_10, zVi (a0 19) k9 28 g_11, zVi (a0 20) k10 28 g_12, zVi (a0 21) k11 28 g_13, zVl (a0 22) k12 28 g_14, zVl (a0 23) k13 28 g_15, zVi (a0 25) k14 28 g_16, zVi (a0 26) k15 28 g_17, zVi (a0 27) k16 28 s_6.2.2.2.2.2.2.2.2.2] H := by rw [eg_17]; exact hP
            have hD : va_D A [(h0, .inr (12, zO a0 b0 c0)), zVi (a0 12) k1 2 g_1, zVi (a0 17) k2 2 g_2, zVi (a0 24) k3 2 g_3, zVi (a0 13) k4 8 s_4.2.1, zVi (a0 14) k5 8 s_4.2.2.1, zVi (a0 15) k6 8 s_4.2.2.2.1, zVi (a0 16) k7 8 s_4.2.2.2.2, zVi (a0 18) k8 28 g_10, zVi (a0 19) k9 28 g_11, zVi (a0 20) k10 28 g_12, zVi (a0 21) k11 28 g_13, zVl (a0 22) k12 28 g_14, zVl (a0 23) k13 28 g_15, zVi (a0 25) k14 28 g_16, zVi (a0 26) k15 28 g_17, zVi (a0 27) k16 28 s_6.2.2.2.2.2.2.2.2.2] := by rw [eg_17]; exact hD
            refine lv_aload_n hx hb dX12_copiesTask_214 rfl (lv_at hl 2 rfl) ?_
            refine va_get (D := (dC, dI)) (ci := 12) (v := .ref (a0 27)) (C := RX12) (T := TX12) (N := 67) hx hb hts zn_X12_copiesTask_X12 hown hK hP 0 rfl rfl 27 (of_decide_eq_true rfl) (hts (.fieldLink RX12 93 "ShortEnoughModel" "groupOf" "[I") zw_X12_copiesTask_1009) (fun _ h9 => h9) rfl dX12_copiesTask_215 ?_
            refine lv_iload_n hx hb dX12_copiesTask_218 rfl (lv_at hl 1 rfl) ?_
            refine lv_aload_n hx hb dX12_copiesTask_219 rfl (lv_at hl 2 rfl) ?_
            refine va_get (D := (dC, dI)) (ci := 12) (v := .ref (a0 27)) (C := RX12) (T := TX12) (N := 67) hx hb hts zn_X12_copiesTask_X12 hown hK hP 0 rfl rfl 27 (of_decide_eq_true rfl) (hts (.fieldLink RX12 93 "ShortEnoughModel" "groupOf" "[I") zw_X12_copiesTask_1009) (fun _ h9 => h9) rfl dX12_copiesTask_220 ?_
            refine lv_iload_n hx hb dX12_copiesTask_223 rfl (lv_at hl 0 rfl) ?_
            refine va_iald hx hb hK hP 16 15 rfl rfl h_8 dX12_copiesTask_224 ?_
            refine va_iast hx hb hK hP hD hS 16 15 rfl rfl h_9 dX12_copiesTask_225 (fun H locs hP hD hS => ?_)
            obtain ⟨g_18, eg_18⟩ : ∃ g : Nat → Int32, g = (upd s_6.2.2.2.2.2.2.2.2.2 s_6.1.toNatClampNeg (s_6.2.2.2.2.2.2.2.2.2 (14 + s_6.1).toNatClampNeg)) := ⟨_, rfl⟩
            have hfn := zn_s hfn eg_18
            have hP : va_P (dC, dI) vwCl [(h0, .inr (12, zO a0 b0 c0)), zVi (a0 12) k1 2 g_1, zVi (a0 17) k2 2 g_2, zVi (a0 24) k3 2 g_3, zVi (a0 13) k4 8 s_4.2.1, zVi (a0 14) k5 8 s_4.2.2.1, zVi (a0 15) k6 8 s_4.2.2.2.1, zVi (a0 16) k7 8 s_4.2.2.2.2, zVi (a0 18) k8 28 g_10, zVi (a0 19) k9 28 g_11, zVi (a0 20) k10 28 g_12, zVi (a0 21) k11 28 g_13, zVl (a0 22) k12 28 g_14, zVl (a0 23) k13 28 g_15, zVi (a0 25) k14 28 g_16, zVi (a0 26) k15 28 g_17, zVi (a0 27) k16 28 g_18] H := by rw [eg_18]; exact hP
            have hD : va_D A [(h0, .inr (12, zO a0 b0 c0)), zVi (a0 12) k1 2 g_1, zVi (a0 17) k2 2 g_2, zVi (a0 24) k3 2 g_3, zVi (a0 13) k4 8 s_4.2.1, zVi (a0 14) k5 8 s_4.2.2.1, zVi (a0 15) k6 8 s_4.2.2.2.1, zVi (a0 16) k7 8 s_4.2.2.2.2, zVi (a0 18) k8 28 g_10, zVi (a0 19) k9 28 g_11, zVi (a0 20) k10 28 g_12, zVi (a0 21) k11 28 g_13, zVl (a0 22) k12 28 g_14, zVl (a0 23) k13 28 g_15, zVi (a0 25) k14 28 g_16, zVi (a0 26) k15 28 g_17, zVi (a0 27) k16 28 g_18] := by rw [eg_18]; exact hD
            refine lv_iinc (v := (s_6.1 + 1)) (lv' := [(1, .int (s_6.1 + 1)), (2, .int (14 + s_6.1)), (0, .ref h0)]) hx hb dX12_copiesTask_226 hl (k := 1) rfl rfl (of_decide_eq_true rfl) rfl (fun ls hl => ?_)
            refine lv_goto (tgt := 107) hx hb dX12_copiesTask_229 (of_decide_eq_true rfl) ?_
            exact ih_6 ((s_6.1 + 1), g_10, g_11, g_12, g_13, g_14, g_15, g_16, g_17, g_18) H locs ls hfn hP hD hS (lv_sub hl [0, 2] rfl)
        exact lp_6 _ (0, f8, f9, f10, f11, f12, f13, f14, f15, f16) H locs ls hfn hP hD hS (lv_sub hl [0, 1] rfl)
      have hfn := (if_neg c_5).symm.trans hfn
      refine lv_aload_n hx hb dX12_copiesTask_43 rfl (lv_at hl 1 rfl) ?_
      refine va_get (D := (dC, dI)) (ci := 12) (v := .ref (a0 13)) (C := RX12) (T := TX12) (N := 67) hx hb hts zn_X12_copiesTask_X12 hown hK hP 0 rfl rfl 13 (of_decide_eq_true rfl) (hts (.fieldLink RX12 50 "ShortEnoughModel" "formatName" "[I") zw_X12_copiesTask_997) (fun _ h9 => h9) rfl dX12_copiesTask_44 ?_
      refine lv_iload_n hx hb dX12_copiesTask_47 rfl (lv_at hl 0 rfl) ?_
      refine lv_aload_n hx hb dX12_copiesTask_48 rfl (lv_at hl 1 rfl) ?_
      refine va_get (D := (dC, dI)) (ci := 12) (v := .ref (a0 13)) (C := RX12) (T := TX12) (N := 67) hx hb hts zn_X12_copiesTask_X12 hown hK hP 0 rfl rfl 13 (of_decide_eq_true rfl) (hts (.fieldLink RX12 50 "ShortEnoughModel" "formatName" "[I") zw_X12_copiesTask_997) (fun _ h9 => h9) rfl dX12_copiesTask_49 ?_
      refine lv_iconst (v := 4) hx hb dX12_copiesTask_52 zci_4 ?_
      refine lv_iload_n hx hb dX12_copiesTask_53 rfl (lv_at hl 0 rfl) ?_
      refine lv_iadd hx hb dX12_copiesTask_54 ?_
      obtain ⟨h_19, hfn⟩ := zg_s hfn
      refine va_iald hx hb hK hP 4 3 rfl rfl h_19 dX12_copiesTask_55 ?_
      obtain ⟨h_20, hfn⟩ := zg_s hfn
      refine va_iast hx hb hK hP hD hS 4 3 rfl rfl h_20 dX12_copiesTask_56 (fun H locs hP hD hS => ?_)
      obtain ⟨g_21, eg_21⟩ : ∃ g : Nat → Int32, g = (upd s_4.2.1 s_4.1.toNatClampNeg (s_4.2.1 (4 + s_4.1).toNatClampNeg)) := ⟨_, rfl⟩
      have hfn := zn_s hfn eg_21
      have hP : va_P (dC, dI) vwCl [(h0, .inr (12, zO a0 b0 c0)), zVi (a0 12) k1 2 g_1, zVi (a0 17) k2 2 g_2, zVi (a0 24) k3 2 g_3, zVi (a0 13) k4 8 g_21, zVi (a0 14) k5 8 s_4.2.2.1, zVi (a0 15) k6 8 s_4.2.2.2.1, zVi (a0 16) k7 8 s_4.2.2.2.2, zVi (a0 18) k8 28 f8, zVi (a0 19) k9 28 f9, zVi (a0 20) k10 28 f10, zVi (a0 21) k11 28 f11, zVl (a0 22) k12 28 f12, zVl (a0 23) k13 28 f13, zVi (a0 25) k14 28 f14, zVi (a0 26) k15 28 f15, zVi (a0 27) k16 28 f16] H := by rw [eg_21]; exact hP
      have hD : va_D A [(h0, .inr (12, zO a0 b0 c0)), zVi (a0 12) k1 2 g_1, zVi (a0 17) k2 2 g_2, zVi (a0 24) k3 2 g_3, zVi (a0 13) k4 8 g_21, zVi (a0 14) k5 8 s_4.2.2.1, zVi (a0 15) k6 8 s_4.2.2.2.1, zVi (a0 16) k7 8 s_4.2.2.2.2, zVi (a0 18) k8 28 f8, zVi (a0 19) k9 28 f9, zVi (a0 20) k10 28 f10, zVi (a0 21) k11 28 f11, zVl (a0 22) k12 28 f12, zVl (a0 23) k13 28 f13, zVi (a0 25) k14 28 f14, zVi (a0 26) k15 28 f15, zVi (a0 27) k16 28 f16] := by rw [eg_21]; exact hD
      refine lv_aload_n hx hb dX12_copiesTask_57 rfl (lv_at hl 1 rfl) ?_
      refine va_get (D := (dC, dI)) (ci := 12) (v := .ref (a0 14)) (C := RX12) (T := TX12) (N := 67) hx hb hts zn_X12_copiesTask_X12 hown hK hP 0 rfl rfl 14 (of_decide_eq_true rfl) (hts (.fieldLink RX12 53 "ShortEnoughModel" "step" "[I") zw_X12_copiesTask_998) (fun _ h9 => h9) rfl dX12_copiesTask_58 ?_
      refine lv_iload_n hx hb dX12_copiesTask_61 rfl (lv_at hl 0 rfl) ?_
      refine lv_aload_n hx hb dX12_copiesTask_62 rfl (lv_at hl 1 rfl) ?_
      refine va_get (D := (dC, dI)) (ci := 12) (v := .ref (a0 14)) (C := RX12) (T := TX12) (N := 67) hx hb hts zn_X12_copiesTask_X12 hown hK hP 0 rfl rfl 14 (of_decide_eq_true rfl) (hts (.fieldLink RX12 53 "ShortEnoughModel" "step" "[I") zw_X12_copiesTask_998) (fun _ h9 => h9) rfl dX12_copiesTask_63 ?_
      refine lv_iconst (v := 4) hx hb dX12_copiesTask_66 zci_4 ?_
      refine lv_iload_n hx hb dX12_copiesTask_67 rfl (lv_at hl 0 rfl) ?_
      refine lv_iadd hx hb dX12_copiesTask_68 ?_
      refine va_iald hx hb hK hP 5 4 rfl rfl h_19 dX12_copiesTask_69 ?_
      refine va_iast hx hb hK hP hD hS 5 4 rfl rfl h_20 dX12_copiesTask_70 (fun H locs hP hD hS => ?_)
      obtain ⟨g_22, eg_22⟩ : ∃ g : Nat → Int32, g = (upd s_4.2.2.1 s_4.1.toNatClampNeg (s_4.2.2.1 (4 + s_4.1).toNatClampNeg)) := ⟨_, rfl⟩
      have hfn := zn_s hfn eg_22
      have hP : va_P (dC, dI) vwCl [(h0, .inr (12, zO a0 b0 c0)), zVi (a0 12) k1 2 g_1, zVi (a0 17) k2 2 g_2, zVi (a0 24) k3 2 g_3, zVi (a0 13) k4 8 g_21, zVi (a0 14) k5 8 g_22, zVi (a0 15) k6 8 s_4.2.2.2.1, zVi (a0 16) k7 8 s_4.2.2.2.2, zVi (a0 18) k8 28 f8, zVi (a0 19) k9 28 f9, zVi (a0 20) k10 28 f10, zVi (a0 21) k11 28 f11, zVl (a0 22) k12 28 f12, zVl (a0 23) k13 28 f13, zVi (a0 25) k14 28 f14, zVi (a0 26) k15 28 f15, zVi (a0 27) k16 28 f16] H := by rw [eg_22]; exact hP
      have hD : va_D A [(h0, .inr (12, zO a0 b0 c0)), zVi (a0 12) k1 2 g_1, zVi (a0 17) k2 2 g_2, zVi (a0 24) k3 2 g_3, zVi (a0 13) k4 8 g_21, zVi (a0 14) k5 8 g_22, zVi (a0 15) k6 8 s_4.2.2.2.1, zVi (a0 16) k7 8 s_4.2.2.2.2, zVi (a0 18) k8 28 f8, zVi (a0 19) k9 28 f9, zVi (a0 20) k10 28 f10, zVi (a0 21) k11 28 f11, zVl (a0 22) k12 28 f12, zVl (a0 23) k13 28 f13, zVi (a0 25) k14 28 f14, zVi (a0 26) k15 28 f15, zVi (a0 27) k16 28 f16] := by rw [eg_22]; exact hD
      refine lv_aload_n hx hb dX12_copiesTask_71 rfl (lv_at hl 1 rfl) ?_
      refine va_get (D := (dC, dI)) (ci := 12) (v := .ref (a0 15)) (C := RX12) (T := TX12) (N := 67) hx hb hts zn_X12_copiesTask_X12 hown hK hP 0 rfl rfl 15 (of_decide_eq_true rfl) (hts (.fieldLink RX12 56 "ShortEnoughModel" "most" "[I") zw_X12_copiesTask_999) (fun _ h9 => h9) rfl dX12_copiesTask_72 ?_
      refine lv_iload_n hx hb dX12_copiesTask_75 rfl (lv_at hl 0 rfl) ?_
      refine lv_aload_n hx hb dX12_copiesTask_76 rfl (lv_at hl 1 rfl) ?_
      refine va_get (D := (dC, dI)) (ci := 12) (v := .ref (a0 15)) (C := RX12) (T := TX12) (N := 67) hx hb hts zn_X12_copiesTask_X12 hown hK hP 0 rfl rfl 15 (of_decide_eq_true rfl) (hts (.fieldLink RX12 56 "ShortEnoughModel" "most" "[I") zw_X12_copiesTask_999) (fun _ h9 => h9) rfl dX12_copiesTask_77 ?_
      refine lv_iconst (v := 4) hx hb dX12_copiesTask_80 zci_4 ?_
      refine lv_iload_n hx hb dX12_copiesTask_81 rfl (lv_at hl 0 rfl) ?_
      refine lv_iadd hx hb dX12_copiesTask_82 ?_
      refine va_iald hx hb hK hP 6 5 rfl rfl h_19 dX12_copiesTask_83 ?_
      refine va_iast hx hb hK hP hD hS 6 5 rfl rfl h_20 dX12_copiesTask_84 (fun H locs hP hD hS => ?_)
      obtain ⟨g_23, eg_23⟩ : ∃ g : Nat → Int32, g = (upd s_4.2.2.2.1 s_4.1.toNatClampNeg (s_4.2.2.2.1 (4 + s_4.1).toNatClampNeg)) := ⟨_, rfl⟩
      have hfn := zn_s hfn eg_23
      have hP : va_P (dC, dI) vwCl [(h0, .inr (12, zO a0 b0 c0)), zVi (a0 12) k1 2 g_1, zVi (a0 17) k2 2 g_2, zVi (a0 24) k3 2 g_3, zVi (a0 13) k4 8 g_21, zVi (a0 14) k5 8 g_22, zVi (a0 15) k6 8 g_23, zVi (a0 16) k7 8 s_4.2.2.2.2, zVi (a0 18) k8 28 f8, zVi (a0 19) k9 28 f9, zVi (a0 20) k10 28 f10, zVi (a0 21) k11 28 f11, zVl (a0 22) k12 28 f12, zVl (a0 23) k13 28 f13, zVi (a0 25) k14 28 f14, zVi (a0 26) k15 28 f15, zVi (a0 27) k16 28 f16] H := by rw [eg_23]; exact hP
      have hD : va_D A [(h0, .inr (12, zO a0 b0 c0)), zVi (a0 12) k1 2 g_1, zVi (a0 17) k2 2 g_2, zVi (a0 24) k3 2 g_3, zVi (a0 13) k4 8 g_21, zVi (a0 14) k5 8 g_22, zVi (a0 15) k6 8 g_23, zVi (a0 16) k7 8 s_4.2.2.2.2, zVi (a0 18) k8 28 f8, zVi (a0 19) k9 28 f9, zVi (a0 20) k10 28 f10, zVi (a0 21) k11 28 f11, zVl (a0 22) k12 28 f12, zVl (a0 23) k13 28 f13, zVi (a0 25) k14 28 f14, zVi (a0 26) k15 28 f15, zVi (a0 27) k16 28 f16] := by rw [eg_23]; exact hD
      refine lv_aload_n hx hb dX12_copiesTask_85 rfl (lv_at hl 1 rfl) ?_
      refine va_get (D := (dC, dI)) (ci := 12) (v := .ref (a0 16)) (C := RX12) (T := TX12) (N := 67) hx hb hts zn_X12_copiesTask_X12 hown hK hP 0 rfl rfl 16 (of_decide_eq_true rfl) (hts (.fieldLink RX12 59 "ShortEnoughModel" "formatCost" "[I") zw_X12_copiesTask_1000) (fun _ h9 => h9) rfl dX12_copiesTask_86 ?_
      refine lv_iload_n hx hb dX12_copiesTask_89 rfl (lv_at hl 0 rfl) ?_
      refine lv_aload_n hx hb dX12_copiesTask_90 rfl (lv_at hl 1 rfl) ?_
      refine va_get (D := (dC, dI)) (ci := 12) (v := .ref (a0 16)) (C := RX12) (T := TX12) (N := 67) hx hb hts zn_X12_copiesTask_X12 hown hK hP 0 rfl rfl 16 (of_decide_eq_true rfl) (hts (.fieldLink RX12 59 "ShortEnoughModel" "formatCost" "[I") zw_X12_copiesTask_1000) (fun _ h9 => h9) rfl dX12_copiesTask_91 ?_
      refine lv_iconst (v := 4) hx hb dX12_copiesTask_94 zci_4 ?_
      refine lv_iload_n hx hb dX12_copiesTask_95 rfl (lv_at hl 0 rfl) ?_
      refine lv_iadd hx hb dX12_copiesTask_96 ?_
      refine va_iald hx hb hK hP 7 6 rfl rfl h_19 dX12_copiesTask_97 ?_
      refine va_iast hx hb hK hP hD hS 7 6 rfl rfl h_20 dX12_copiesTask_98 (fun H locs hP hD hS => ?_)
      obtain ⟨g_24, eg_24⟩ : ∃ g : Nat → Int32, g = (upd s_4.2.2.2.2 s_4.1.toNatClampNeg (s_4.2.2.2.2 (4 + s_4.1).toNatClampNeg)) := ⟨_, rfl⟩
      have hfn := zn_s hfn eg_24
      have hP : va_P (dC, dI) vwCl [(h0, .inr (12, zO a0 b0 c0)), zVi (a0 12) k1 2 g_1, zVi (a0 17) k2 2 g_2, zVi (a0 24) k3 2 g_3, zVi (a0 13) k4 8 g_21, zVi (a0 14) k5 8 g_22, zVi (a0 15) k6 8 g_23, zVi (a0 16) k7 8 g_24, zVi (a0 18) k8 28 f8, zVi (a0 19) k9 28 f9, zVi (a0 20) k10 28 f10, zVi (a0 21) k11 28 f11, zVl (a0 22) k12 28 f12, zVl (a0 23) k13 28 f13, zVi (a0 25) k14 28 f14, zVi (a0 26) k15 28 f15, zVi (a0 27) k16 28 f16] H := by rw [eg_24]; exact hP
      have hD : va_D A [(h0, .inr (12, zO a0 b0 c0)), zVi (a0 12) k1 2 g_1, zVi (a0 17) k2 2 g_2, zVi (a0 24) k3 2 g_3, zVi (a0 13) k4 8 g_21, zVi (a0 14) k5 8 g_22, zVi (a0 15) k6 8 g_23, zVi (a0 16) k7 8 g_24, zVi (a0 18) k8 28 f8, zVi (a0 19) k9 28 f9, zVi (a0 20) k10 28 f10, zVi (a0 21) k11 28 f11, zVl (a0 22) k12 28 f12, zVl (a0 23) k13 28 f13, zVi (a0 25) k14 28 f14, zVi (a0 26) k15 28 f15, zVi (a0 27) k16 28 f16] := by rw [eg_24]; exact hD
      refine lv_iinc (v := (s_4.1 + 1)) (lv' := [(1, .int (s_4.1 + 1)), (0, .ref h0)]) hx hb dX12_copiesTask_99 hl (k := 0) rfl rfl (of_decide_eq_true rfl) rfl (fun ls hl => ?_)
      refine lv_goto (tgt := 38) hx hb dX12_copiesTask_102 (of_decide_eq_true rfl) ?_
      exact ih_4 ((s_4.1 + 1), g_21, g_22, g_23, g_24) H locs ls hfn hP hD hS (lv_sub hl [0, 1] rfl)
  exact lp_4 _ (0, f4, f5, f6, f7) H locs ls hfn hP hD hS (lv_sub hl [0, 1] rfl)
theorem zn_X12_beginsChoice_X12 : ∀ w ∈ wsX120, w ∈ wsX12_beginsChoice := fun _ h => List.mem_cons_of_mem _ (List.mem_append_right _ h)
theorem zw_X12_beginsChoice_1023 : Cond.fieldLink RX12 128 "ShortEnoughModel" "hasHand" "Z" ∈ wsX12_beginsChoice := List.mem_of_getElem? (i := 1) (by decide +kernel)
theorem zw_X12_beginsChoice_1024 : Cond.fieldLink RX12 62 "ShortEnoughModel" "numbers" "[I" ∈ wsX12_beginsChoice := List.mem_of_getElem? (i := 2) (by decide +kernel)
theorem zw_X12_beginsChoice_1025 : Cond.fieldLink RX12 125 "ShortEnoughModel" "hand" "[I" ∈ wsX12_beginsChoice := List.mem_of_getElem? (i := 3) (by decide +kernel)
theorem zw_X12_beginsChoice_1026 : Cond.fieldLink RX12 87 "ShortEnoughModel" "fixedAs" "[I" ∈ wsX12_beginsChoice := List.mem_of_getElem? (i := 4) (by decide +kernel)
theorem zw_X12_beginsChoice_1027 : Cond.fieldLink RX12 93 "ShortEnoughModel" "groupOf" "[I" ∈ wsX12_beginsChoice := List.mem_of_getElem? (i := 5) (by decide +kernel)
set_option maxHeartbeats 4000000 in
set_option maxRecDepth 100000 in
theorem zf_X12_beginsChoice (l : Launch) (dC : Nat → ClassId) (dI : Nat → Nat → Nat) (h0 : Nat) (a0 : Nat → Nat) (b0 : Nat → Int32) (c0 : Nat → Int64) (k1 : Nat) (f1 : Nat → Int32) (k2 : Nat) (f2 : Nat → Int32) (k3 : Nat) (f3 : Nat → Int32) (k4 : Nat) (f4 : Nat → Int32) (o : Int32 × (Nat → Int32)) (hfn : fn_X12_beginsChoice f1 f2 f3 f4 = some o) (sz : Nat) : zMv l yX12_beginsChoice wsX12_beginsChoice ({ frames := 0, cells := 0, slots := 0, locals := 0 }) (dC, dI) vwCl [.ref h0] [(h0, .inr (12, zO a0 b0 c0)), zVi (a0 17) k1 2 f1, zVi (a0 37) k2 14 f2, zVi (a0 25) k3 28 f3, zVi (a0 27) k4 28 f4] [(k1, .int), (k2, .int), (k3, .int), (k4, .int)] (fun _ => True) [(h0, .inr (12, zO a0 (zI b0 38 o.1) c0)), zVi (a0 17) k1 2 f1, zVi (a0 37) k2 14 o.2, zVi (a0 25) k3 28 f3, zVi (a0 27) k4 28 f4] [(k1, .int), (k2, .int), (k3, .int), (k4, .int)] sz := by
  refine zgov (cc := cX12_beginsChoice) (maxL := 3) (ret := none) (C0 := RX12) (lv0 := [(0, .ref h0)]) zpl_X12 rfl rfl rfl (Nat.le_of_ble_eq_true rfl) ?_
  intro p e s m below meth c A ls Q hx hb hr hts hown hlocks hml hP hK hD hA hS hl hQ
  unfold fn_X12_beginsChoice at hfn
  refine lv_aload_n hx hb dX12_beginsChoice_0 rfl (lv_at hl 0 rfl) ?_
  refine lv_iconst (v := 1) hx hb dX12_beginsChoice_1 zci_1 ?_
  refine va_put (D := (dC, dI)) (ci := 12) (v := .int 1) (ty := .boolean) (C := RX12) (T := TX12) (N := 67) hx hb hts zn_X12_beginsChoice_X12 tyX12 tyX12_ok nmX12 hown hK hP hD hS 0 rfl rfl 38 (of_decide_eq_true rfl) (hts (.fieldLink RX12 128 "ShortEnoughModel" "hasHand" "Z") zw_X12_beginsChoice_1023) (fun _ h9 => h9) rfl (tyX12_ok 38 (of_decide_eq_true rfl)) rfl rfl (Nat.le_of_ble_eq_true rfl) dX12_beginsChoice_2 (fun H locs hP hD hS => ?_)
  have hP : va_P (dC, dI) vwCl [(h0, .inr (12, zO a0 (zI b0 38 1) c0)), zVi (a0 17) k1 2 f1, zVi (a0 37) k2 14 f2, zVi (a0 25) k3 28 f3, zVi (a0 27) k4 28 f4] H := hP
  have hD := zDW hD hP rfl
  refine lv_iconst (v := 0) hx hb dX12_beginsChoice_5 zci_0 ?_
  refine lv_istore_n (lv' := [(1, .int 0), (0, .ref h0)]) hx hb dX12_beginsChoice_6 rfl hl (of_decide_eq_true rfl) rfl (fun ls hl => ?_)
  obtain ⟨bd_1, ebd_1, hfn⟩ := zl_g hfn
  have lp_1 : ∀ (n : Nat) (s_1 : Int32 × (Nat → Int32)) (H : Heap) (locs : List Loc) (ls : Array Slot), zl bd_1 n s_1 = some o → va_P (dC, dI) vwCl [(h0, .inr (12, zO a0 (zI b0 38 1) c0)), zVi (a0 17) k1 2 f1, zVi (a0 37) k2 14 s_1.2, zVi (a0 25) k3 28 f3, zVi (a0 27) k4 28 f4] H → va_D A [(h0, .inr (12, zO a0 (zI b0 38 1) c0)), zVi (a0 17) k1 2 f1, zVi (a0 37) k2 14 s_1.2, zVi (a0 25) k3 28 f3, zVi (a0 27) k4 28 f4] → va_S A s.heap H locs → lv_has ls 3 [(1, .int s_1.1), (0, .ref h0)] → W p l e (headSpec wsX12_beginsChoice ({ frames := 0, cells := 0, slots := 0, locals := 0 })).room s m ([.ref h0] : List Value).toArray below meth c H locs 0 0 Q (F0 m 7 ls []) := by
    intro n
    induction n with
    | zero => exact fun _ _ _ _ hfn => (zl_0 hfn).elim
    | succ n ih_1 =>
      intro s_1 H locs ls hfn hP hD hS hl
      have hfn := zl_s ebd_1 hfn
      refine lv_iload_n hx hb dX12_beginsChoice_7 rfl (lv_at hl 0 rfl) ?_
      refine lv_aload_n hx hb dX12_beginsChoice_8 rfl (lv_at hl 1 rfl) ?_
      refine va_get (D := (dC, dI)) (ci := 12) (v := .ref (a0 17)) (C := RX12) (T := TX12) (N := 67) hx hb hts zn_X12_beginsChoice_X12 hown hK hP 0 rfl rfl 17 (of_decide_eq_true rfl) (hts (.fieldLink RX12 62 "ShortEnoughModel" "numbers" "[I") zw_X12_beginsChoice_1024) (fun _ h9 => h9) rfl dX12_beginsChoice_9 ?_
      refine lv_iconst (v := 0) hx hb dX12_beginsChoice_12 zci_0 ?_
      refine va_iald hx hb hK hP 1 0 rfl rfl (zv_in (by decide +kernel)) dX12_beginsChoice_13 ?_
      refine lv_icmp_ge (tgt := 30) hx hb dX12_beginsChoice_14 (of_decide_eq_true rfl) (fun c_2 => ?_) (fun c_2 => ?_)
      · have hfn := (if_pos c_2).symm.trans hfn
        refine lv_iconst (v := 0) hx hb dX12_beginsChoice_30 zci_0 ?_
        refine lv_istore_n (lv' := [(1, .int 0), (0, .ref h0)]) hx hb dX12_beginsChoice_31 rfl hl (of_decide_eq_true rfl) rfl (fun ls hl => ?_)
        obtain ⟨bd_3, ebd_3, hfn⟩ := zl_g hfn
        have lp_3 : ∀ (n : Nat) (s_3 : Int32 × Int32 × (Nat → Int32)) (H : Heap) (locs : List Loc) (ls : Array Slot), zl bd_3 n s_3 = some o → va_P (dC, dI) vwCl [(h0, .inr (12, zO a0 (zI b0 38 s_3.2.1) c0)), zVi (a0 17) k1 2 f1, zVi (a0 37) k2 14 s_3.2.2, zVi (a0 25) k3 28 f3, zVi (a0 27) k4 28 f4] H → va_D A [(h0, .inr (12, zO a0 (zI b0 38 s_3.2.1) c0)), zVi (a0 17) k1 2 f1, zVi (a0 37) k2 14 s_3.2.2, zVi (a0 25) k3 28 f3, zVi (a0 27) k4 28 f4] → va_S A s.heap H locs → lv_has ls 3 [(1, .int s_3.1), (0, .ref h0)] → W p l e (headSpec wsX12_beginsChoice ({ frames := 0, cells := 0, slots := 0, locals := 0 })).room s m ([.ref h0] : List Value).toArray below meth c H locs 0 0 Q (F0 m 32 ls []) := by
          intro n
          induction n with
          | zero => exact fun _ _ _ _ hfn => (zl_0 hfn).elim
          | succ n ih_3 =>
            intro s_3 H locs ls hfn hP hD hS hl
            have hfn := zl_s ebd_3 hfn
            refine lv_iload_n hx hb dX12_beginsChoice_32 rfl (lv_at hl 0 rfl) ?_
            refine lv_aload_n hx hb dX12_beginsChoice_33 rfl (lv_at hl 1 rfl) ?_
            refine va_get (D := (dC, dI)) (ci := 12) (v := .ref (a0 17)) (C := RX12) (T := TX12) (N := 67) hx hb hts zn_X12_beginsChoice_X12 hown hK hP 0 rfl rfl 17 (of_decide_eq_true rfl) (hts (.fieldLink RX12 62 "ShortEnoughModel" "numbers" "[I") zw_X12_beginsChoice_1024) (fun _ h9 => h9) rfl dX12_beginsChoice_34 ?_
            refine lv_iconst (v := 0) hx hb dX12_beginsChoice_37 zci_0 ?_
            refine va_iald hx hb hK hP 1 0 rfl rfl (zv_in (by decide +kernel)) dX12_beginsChoice_38 ?_
            refine lv_icmp_ge (tgt := 150) hx hb dX12_beginsChoice_39 (of_decide_eq_true rfl) (fun c_4 => ?_) (fun c_4 => ?_)
            · have hfn := (if_pos c_4).symm.trans hfn
              have ho := Option.some.inj hfn
              subst ho
              exact zrv hx hb hr hK hP hD hS hQ trivial hlocks dX12_beginsChoice_150
            have hfn := (if_neg c_4).symm.trans hfn
            refine lv_aload_n hx hb dX12_beginsChoice_42 rfl (lv_at hl 1 rfl) ?_
            refine va_get (D := (dC, dI)) (ci := 12) (v := .ref (a0 25)) (C := RX12) (T := TX12) (N := 67) hx hb hts zn_X12_beginsChoice_X12 hown hK hP 0 rfl rfl 25 (of_decide_eq_true rfl) (hts (.fieldLink RX12 87 "ShortEnoughModel" "fixedAs" "[I") zw_X12_beginsChoice_1026) (fun _ h9 => h9) rfl dX12_beginsChoice_43 ?_
            refine lv_iload_n hx hb dX12_beginsChoice_46 rfl (lv_at hl 0 rfl) ?_
            obtain ⟨h_5, hfn⟩ := zg_s hfn
            refine va_iald hx hb hK hP 3 2 rfl rfl h_5 dX12_beginsChoice_47 ?_
            refine lv_iconst (v := (-1)) hx hb dX12_beginsChoice_48 zci_m1 ?_
            refine lv_icmp_ne (tgt := 55) hx hb dX12_beginsChoice_49 (of_decide_eq_true rfl) (fun c_6 => ?_) (fun c_6 => ?_)
            · have hfn := (if_neg c_6).symm.trans hfn
              refine lv_iconst (v := 0) hx hb dX12_beginsChoice_55 zci_0 ?_
              refine lv_istore_n (lv' := [(2, .int 0), (1, .int s_3.1), (0, .ref h0)]) hx hb dX12_beginsChoice_56 rfl hl (of_decide_eq_true rfl) rfl (fun ls hl => ?_)
              obtain ⟨bd_7, ebd_7, hfn⟩ := zl_g hfn
              have lp_7 : ∀ (n : Nat) (s_7 : Int32 × Int32 × (Nat → Int32)) (H : Heap) (locs : List Loc) (ls : Array Slot), zl bd_7 n s_7 = some o → va_P (dC, dI) vwCl [(h0, .inr (12, zO a0 (zI b0 38 s_7.2.1) c0)), zVi (a0 17) k1 2 f1, zVi (a0 37) k2 14 s_7.2.2, zVi (a0 25) k3 28 f3, zVi (a0 27) k4 28 f4] H → va_D A [(h0, .inr (12, zO a0 (zI b0 38 s_7.2.1) c0)), zVi (a0 17) k1 2 f1, zVi (a0 37) k2 14 s_7.2.2, zVi (a0 25) k3 28 f3, zVi (a0 27) k4 28 f4] → va_S A s.heap H locs → lv_has ls 3 [(2, .int s_7.1), (1, .int s_3.1), (0, .ref h0)] → W p l e (headSpec wsX12_beginsChoice ({ frames := 0, cells := 0, slots := 0, locals := 0 })).room s m ([.ref h0] : List Value).toArray below meth c H locs 0 0 Q (F0 m 57 ls []) := by
                intro n
                induction n with
                | zero => exact fun _ _ _ _ hfn => (zl_0 hfn).elim
                | succ n ih_7 =>
                  intro s_7 H locs ls hfn hP hD hS hl
                  have hfn := zl_s ebd_7 hfn
                  refine lv_iload_n hx hb dX12_beginsChoice_57 rfl (lv_at hl 0 rfl) ?_
                  refine lv_aload_n hx hb dX12_beginsChoice_58 rfl (lv_at hl 2 rfl) ?_
                  refine va_get (D := (dC, dI)) (ci := 12) (v := .ref (a0 17)) (C := RX12) (T := TX12) (N := 67) hx hb hts zn_X12_beginsChoice_X12 hown hK hP 0 rfl rfl 17 (of_decide_eq_true rfl) (hts (.fieldLink RX12 62 "ShortEnoughModel" "numbers" "[I") zw_X12_beginsChoice_1024) (fun _ h9 => h9) rfl dX12_beginsChoice_59 ?_
                  refine lv_iconst (v := 0) hx hb dX12_beginsChoice_62 zci_0 ?_
                  refine va_iald hx hb hK hP 1 0 rfl rfl (zv_in (by decide +kernel)) dX12_beginsChoice_63 ?_
                  refine lv_icmp_ge (tgt := 144) hx hb dX12_beginsChoice_64 (of_decide_eq_true rfl) (fun c_8 => ?_) (fun c_8 => ?_)
                  · have hfn := (if_pos c_8).symm.trans hfn
                    refine lv_iinc (v := (s_3.1 + 1)) (lv' := [(1, .int (s_3.1 + 1)), (2, .int s_7.1), (0, .ref h0)]) hx hb dX12_beginsChoice_144 hl (k := 1) rfl rfl (of_decide_eq_true rfl) rfl (fun ls hl => ?_)
                    refine lv_goto (tgt := 32) hx hb dX12_beginsChoice_147 (of_decide_eq_true rfl) ?_
                    exact ih_3 ((s_3.1 + 1), s_7.2.1, s_7.2.2) H locs ls hfn hP hD hS (lv_sub hl [0, 2] rfl)
                  have hfn := (if_neg c_8).symm.trans hfn
                  refine lv_aload_n hx hb dX12_beginsChoice_67 rfl (lv_at hl 2 rfl) ?_
                  refine va_get (D := (dC, dI)) (ci := 12) (v := .ref (a0 27)) (C := RX12) (T := TX12) (N := 67) hx hb hts zn_X12_beginsChoice_X12 hown hK hP 0 rfl rfl 27 (of_decide_eq_true rfl) (hts (.fieldLink RX12 93 "ShortEnoughModel" "groupOf" "[I") zw_X12_beginsChoice_1027) (fun _ h9 => h9) rfl dX12_beginsChoice_68 ?_
                  refine lv_iload_n hx hb dX12_beginsChoice_71 rfl (lv_at hl 0 rfl) ?_
                  obtain ⟨h_9, hfn⟩ := zg_s hfn
                  refine va_iald hx hb hK hP 4 3 rfl rfl h_9 dX12_beginsChoice_72 ?_
                  refine lv_aload_n hx hb dX12_beginsChoice_73 rfl (lv_at hl 2 rfl) ?_
                  refine va_get (D := (dC, dI)) (ci := 12) (v := .ref (a0 27)) (C := RX12) (T := TX12) (N := 67) hx hb hts zn_X12_beginsChoice_X12 hown hK hP 0 rfl rfl 27 (of_decide_eq_true rfl) (hts (.fieldLink RX12 93 "ShortEnoughModel" "groupOf" "[I") zw_X12_beginsChoice_1027) (fun _ h9 => h9) rfl dX12_beginsChoice_74 ?_
                  refine lv_iload_n hx hb dX12_beginsChoice_77 rfl (lv_at hl 1 rfl) ?_
                  obtain ⟨h_10, hfn⟩ := zg_s hfn
                  refine va_iald hx hb hK hP 4 3 rfl rfl h_10 dX12_beginsChoice_78 ?_
                  refine lv_icmp_eq (tgt := 85) hx hb dX12_beginsChoice_79 (of_decide_eq_true rfl) (fun c_11 => ?_) (fun c_11 => ?_)
                  · have hfn := (if_pos c_11).symm.trans hfn
                    refine lv_aload_n hx hb dX12_beginsChoice_85 rfl (lv_at hl 2 rfl) ?_
                    refine va_get (D := (dC, dI)) (ci := 12) (v := .ref (a0 37)) (C := RX12) (T := TX12) (N := 67) hx hb hts zn_X12_beginsChoice_X12 hown hK hP 0 rfl rfl 37 (of_decide_eq_true rfl) (hts (.fieldLink RX12 125 "ShortEnoughModel" "hand" "[I") zw_X12_beginsChoice_1025) (fun _ h9 => h9) rfl dX12_beginsChoice_86 ?_
                    refine lv_iload_n hx hb dX12_beginsChoice_89 rfl (lv_at hl 0 rfl) ?_
                    refine lv_aload_n hx hb dX12_beginsChoice_90 rfl (lv_at hl 2 rfl) ?_
                    refine va_get (D := (dC, dI)) (ci := 12) (v := .ref (a0 25)) (C := RX12) (T := TX12) (N := 67) hx hb hts zn_X12_beginsChoice_X12 hown hK hP 0 rfl rfl 25 (of_decide_eq_true rfl) (hts (.fieldLink RX12 87 "ShortEnoughModel" "fixedAs" "[I") zw_X12_beginsChoice_1026) (fun _ h9 => h9) rfl dX12_beginsChoice_91 ?_
                    refine lv_iload_n hx hb dX12_beginsChoice_94 rfl (lv_at hl 1 rfl) ?_
                    refine va_iald hx hb hK hP 3 2 rfl rfl h_10 dX12_beginsChoice_95 ?_
                    obtain ⟨h_12, hfn⟩ := zg_s hfn
                    refine va_iast hx hb hK hP hD hS 2 1 rfl rfl h_12 dX12_beginsChoice_96 (fun H locs hP hD hS => ?_)
                    have hP : va_P (dC, dI) vwCl [(h0, .inr (12, zO a0 (zI b0 38 s_7.2.1) c0)), zVi (a0 17) k1 2 f1, zVi (a0 37) k2 14 (upd s_7.2.2 s_7.1.toNatClampNeg (f3 s_3.1.toNatClampNeg)), zVi (a0 25) k3 28 f3, zVi (a0 27) k4 28 f4] H := hP
                    have hD := zDW hD hP rfl
                    refine lv_aload_n hx hb dX12_beginsChoice_97 rfl (lv_at hl 2 rfl) ?_
                    refine lv_aload_n hx hb dX12_beginsChoice_98 rfl (lv_at hl 2 rfl) ?_
                    refine va_get (D := (dC, dI)) (ci := 12) (v := .int s_7.2.1) (C := RX12) (T := TX12) (N := 67) hx hb hts zn_X12_beginsChoice_X12 hown hK hP 0 rfl rfl 38 (of_decide_eq_true rfl) (hts (.fieldLink RX12 128 "ShortEnoughModel" "hasHand" "Z") zw_X12_beginsChoice_1023) (fun _ h9 => h9) rfl dX12_beginsChoice_99 ?_
                    refine lv_if_eq (tgt := 134) hx hb dX12_beginsChoice_102 (of_decide_eq_true rfl) (fun c_13 => ?_) (fun c_13 => ?_)
                    · have hfn := (if_pos c_13).symm.trans hfn
                      refine lv_iconst (v := 0) hx hb dX12_beginsChoice_134 zci_0 ?_
                      refine va_put (D := (dC, dI)) (ci := 12) (v := .int 0) (ty := .boolean) (C := RX12) (T := TX12) (N := 67) hx hb hts zn_X12_beginsChoice_X12 tyX12 tyX12_ok nmX12 hown hK hP hD hS 0 rfl rfl 38 (of_decide_eq_true rfl) (hts (.fieldLink RX12 128 "ShortEnoughModel" "hasHand" "Z") zw_X12_beginsChoice_1023) (fun _ h9 => h9) rfl (tyX12_ok 38 (of_decide_eq_true rfl)) rfl rfl (Nat.le_of_ble_eq_true rfl) dX12_beginsChoice_135 (fun H locs hP hD hS => ?_)
                      have hP : va_P (dC, dI) vwCl [(h0, .inr (12, zO a0 (zI b0 38 0) c0)), zVi (a0 17) k1 2 f1, zVi (a0 37) k2 14 (upd s_7.2.2 s_7.1.toNatClampNeg (f3 s_3.1.toNatClampNeg)), zVi (a0 25) k3 28 f3, zVi (a0 27) k4 28 f4] H := hP
                      have hD := zDW hD hP rfl
                      refine lv_iinc (v := (s_7.1 + 1)) (lv' := [(2, .int (s_7.1 + 1)), (1, .int s_3.1), (0, .ref h0)]) hx hb dX12_beginsChoice_138 hl (k := 0) rfl rfl (of_decide_eq_true rfl) rfl (fun ls hl => ?_)
                      refine lv_goto (tgt := 57) hx hb dX12_beginsChoice_141 (of_decide_eq_true rfl) ?_
                      exact ih_7 ((s_7.1 + 1), 0, (upd s_7.2.2 s_7.1.toNatClampNeg (f3 s_3.1.toNatClampNeg))) H locs ls hfn hP hD hS (lv_sub hl [0, 1, 2] rfl)
                    have hfn := (if_neg c_13).symm.trans hfn
                    refine lv_aload_n hx hb dX12_beginsChoice_105 rfl (lv_at hl 2 rfl) ?_
                    refine va_get (D := (dC, dI)) (ci := 12) (v := .ref (a0 25)) (C := RX12) (T := TX12) (N := 67) hx hb hts zn_X12_beginsChoice_X12 hown hK hP 0 rfl rfl 25 (of_decide_eq_true rfl) (hts (.fieldLink RX12 87 "ShortEnoughModel" "fixedAs" "[I") zw_X12_beginsChoice_1026) (fun _ h9 => h9) rfl dX12_beginsChoice_106 ?_
                    refine lv_iload_n hx hb dX12_beginsChoice_109 rfl (lv_at hl 0 rfl) ?_
                    refine va_iald hx hb hK hP 3 2 rfl rfl h_9 dX12_beginsChoice_110 ?_
                    refine lv_iconst (v := (-1)) hx hb dX12_beginsChoice_111 zci_m1 ?_
                    refine lv_icmp_eq (tgt := 130) hx hb dX12_beginsChoice_112 (of_decide_eq_true rfl) (fun c_14 => ?_) (fun c_14 => ?_)
                    · have hfn := (if_pos c_14).symm.trans hfn
                      refine lv_iconst (v := 1) hx hb dX12_beginsChoice_130 zci_1 ?_
                      refine lv_goto (tgt := 135) hx hb dX12_beginsChoice_131 (of_decide_eq_true rfl) ?_
                      refine va_put (D := (dC, dI)) (ci := 12) (v := .int 1) (ty := .boolean) (C := RX12) (T := TX12) (N := 67) hx hb hts zn_X12_beginsChoice_X12 tyX12 tyX12_ok nmX12 hown hK hP hD hS 0 rfl rfl 38 (of_decide_eq_true rfl) (hts (.fieldLink RX12 128 "ShortEnoughModel" "hasHand" "Z") zw_X12_beginsChoice_1023) (fun _ h9 => h9) rfl (tyX12_ok 38 (of_decide_eq_true rfl)) rfl rfl (Nat.le_of_ble_eq_true rfl) dX12_beginsChoice_135 (fun H locs hP hD hS => ?_)
                      have hP : va_P (dC, dI) vwCl [(h0, .inr (12, zO a0 (zI b0 38 1) c0)), zVi (a0 17) k1 2 f1, zVi (a0 37) k2 14 (upd s_7.2.2 s_7.1.toNatClampNeg (f3 s_3.1.toNatClampNeg)), zVi (a0 25) k3 28 f3, zVi (a0 27) k4 28 f4] H := hP
                      have hD := zDW hD hP rfl
                      refine lv_iinc (v := (s_7.1 + 1)) (lv' := [(2, .int (s_7.1 + 1)), (1, .int s_3.1), (0, .ref h0)]) hx hb dX12_beginsChoice_138 hl (k := 0) rfl rfl (of_decide_eq_true rfl) rfl (fun ls hl => ?_)
                      refine lv_goto (tgt := 57) hx hb dX12_beginsChoice_141 (of_decide_eq_true rfl) ?_
                      exact ih_7 ((s_7.1 + 1), 1, (upd s_7.2.2 s_7.1.toNatClampNeg (f3 s_3.1.toNatClampNeg))) H locs ls hfn hP hD hS (lv_sub hl [0, 1, 2] rfl)
                    have hfn := (if_neg c_14).symm.trans hfn
                    refine lv_aload_n hx hb dX12_beginsChoice_115 rfl (lv_at hl 2 rfl) ?_
                    refine va_get (D := (dC, dI)) (ci := 12) (v := .ref (a0 25)) (C := RX12) (T := TX12) (N := 67) hx hb hts zn_X12_beginsChoice_X12 hown hK hP 0 rfl rfl 25 (of_decide_eq_true rfl) (hts (.fieldLink RX12 87 "ShortEnoughModel" "fixedAs" "[I") zw_X12_beginsChoice_1026) (fun _ h9 => h9) rfl dX12_beginsChoice_116 ?_
                    refine lv_iload_n hx hb dX12_beginsChoice_119 rfl (lv_at hl 0 rfl) ?_
                    refine va_iald hx hb hK hP 3 2 rfl rfl h_9 dX12_beginsChoice_120 ?_
                    refine lv_aload_n hx hb dX12_beginsChoice_121 rfl (lv_at hl 2 rfl) ?_
                    refine va_get (D := (dC, dI)) (ci := 12) (v := .ref (a0 25)) (C := RX12) (T := TX12) (N := 67) hx hb hts zn_X12_beginsChoice_X12 hown hK hP 0 rfl rfl 25 (of_decide_eq_true rfl) (hts (.fieldLink RX12 87 "ShortEnoughModel" "fixedAs" "[I") zw_X12_beginsChoice_1026) (fun _ h9 => h9) rfl dX12_beginsChoice_122 ?_
                    refine lv_iload_n hx hb dX12_beginsChoice_125 rfl (lv_at hl 1 rfl) ?_
                    refine va_iald hx hb hK hP 3 2 rfl rfl h_10 dX12_beginsChoice_126 ?_
                    refine lv_icmp_ne (tgt := 134) hx hb dX12_beginsChoice_127 (of_decide_eq_true rfl) (fun c_15 => ?_) (fun c_15 => ?_)
                    · have hfn := (if_neg c_15).symm.trans hfn
                      refine lv_iconst (v := 0) hx hb dX12_beginsChoice_134 zci_0 ?_
                      refine va_put (D := (dC, dI)) (ci := 12) (v := .int 0) (ty := .boolean) (C := RX12) (T := TX12) (N := 67) hx hb hts zn_X12_beginsChoice_X12 tyX12 tyX12_ok nmX12 hown hK hP hD hS 0 rfl rfl 38 (of_decide_eq_true rfl) (hts (.fieldLink RX12 128 "ShortEnoughModel" "hasHand" "Z") zw_X12_beginsChoice_1023) (fun _ h9 => h9) rfl (tyX12_ok 38 (of_decide_eq_true rfl)) rfl rfl (Nat.le_of_ble_eq_true rfl) dX12_beginsChoice_135 (fun H locs hP hD hS => ?_)
                      have hP : va_P (dC, dI) vwCl [(h0, .inr (12, zO a0 (zI b0 38 0) c0)), zVi (a0 17) k1 2 f1, zVi (a0 37) k2 14 (upd s_7.2.2 s_7.1.toNatClampNeg (f3 s_3.1.toNatClampNeg)), zVi (a0 25) k3 28 f3, zVi (a0 27) k4 28 f4] H := hP
                      have hD := zDW hD hP rfl
                      refine lv_iinc (v := (s_7.1 + 1)) (lv' := [(2, .int (s_7.1 + 1)), (1, .int s_3.1), (0, .ref h0)]) hx hb dX12_beginsChoice_138 hl (k := 0) rfl rfl (of_decide_eq_true rfl) rfl (fun ls hl => ?_)
                      refine lv_goto (tgt := 57) hx hb dX12_beginsChoice_141 (of_decide_eq_true rfl) ?_
                      exact ih_7 ((s_7.1 + 1), 0, (upd s_7.2.2 s_7.1.toNatClampNeg (f3 s_3.1.toNatClampNeg))) H locs ls hfn hP hD hS (lv_sub hl [0, 1, 2] rfl)
                    have hfn := (if_pos c_15).symm.trans hfn
                    refine lv_iconst (v := 1) hx hb dX12_beginsChoice_130 zci_1 ?_
                    refine lv_goto (tgt := 135) hx hb dX12_beginsChoice_131 (of_decide_eq_true rfl) ?_
                    refine va_put (D := (dC, dI)) (ci := 12) (v := .int 1) (ty := .boolean) (C := RX12) (T := TX12) (N := 67) hx hb hts zn_X12_beginsChoice_X12 tyX12 tyX12_ok nmX12 hown hK hP hD hS 0 rfl rfl 38 (of_decide_eq_true rfl) (hts (.fieldLink RX12 128 "ShortEnoughModel" "hasHand" "Z") zw_X12_beginsChoice_1023) (fun _ h9 => h9) rfl (tyX12_ok 38 (of_decide_eq_true rfl)) rfl rfl (Nat.le_of_ble_eq_true rfl) dX12_beginsChoice_135 (fun H locs hP hD hS => ?_)
                    have hP : va_P (dC, dI) vwCl [(h0, .inr (12, zO a0 (zI b0 38 1) c0)), zVi (a0 17) k1 2 f1, zVi (a0 37) k2 14 (upd s_7.2.2 s_7.1.toNatClampNeg (f3 s_3.1.toNatClampNeg)), zVi (a0 25) k3 28 f3, zVi (a0 27) k4 28 f4] H := hP
                    have hD := zDW hD hP rfl
                    refine lv_iinc (v := (s_7.1 + 1)) (lv' := [(2, .int (s_7.1 + 1)), (1, .int s_3.1), (0, .ref h0)]) hx hb dX12_beginsChoice_138 hl (k := 0) rfl rfl (of_decide_eq_true rfl) rfl (fun ls hl => ?_)
                    refine lv_goto (tgt := 57) hx hb dX12_beginsChoice_141 (of_decide_eq_true rfl) ?_
                    exact ih_7 ((s_7.1 + 1), 1, (upd s_7.2.2 s_7.1.toNatClampNeg (f3 s_3.1.toNatClampNeg))) H locs ls hfn hP hD hS (lv_sub hl [0, 1, 2] rfl)
                  have hfn := (if_neg c_11).symm.trans hfn
                  refine lv_goto (tgt := 138) hx hb dX12_beginsChoice_82 (of_decide_eq_true rfl) ?_
                  refine lv_iinc (v := (s_7.1 + 1)) (lv' := [(2, .int (s_7.1 + 1)), (1, .int s_3.1), (0, .ref h0)]) hx hb dX12_beginsChoice_138 hl (k := 0) rfl rfl (of_decide_eq_true rfl) rfl (fun ls hl => ?_)
                  refine lv_goto (tgt := 57) hx hb dX12_beginsChoice_141 (of_decide_eq_true rfl) ?_
                  exact ih_7 ((s_7.1 + 1), s_7.2.1, s_7.2.2) H locs ls hfn hP hD hS (lv_sub hl [0, 1, 2] rfl)
              exact lp_7 _ (0, s_3.2.1, s_3.2.2) H locs ls hfn hP hD hS (lv_sub hl [0, 1, 2] rfl)
            have hfn := (if_pos c_6).symm.trans hfn
            refine lv_goto (tgt := 144) hx hb dX12_beginsChoice_52 (of_decide_eq_true rfl) ?_
            refine lv_iinc (v := (s_3.1 + 1)) (lv' := [(1, .int (s_3.1 + 1)), (0, .ref h0)]) hx hb dX12_beginsChoice_144 hl (k := 0) rfl rfl (of_decide_eq_true rfl) rfl (fun ls hl => ?_)
            refine lv_goto (tgt := 32) hx hb dX12_beginsChoice_147 (of_decide_eq_true rfl) ?_
            exact ih_3 ((s_3.1 + 1), s_3.2.1, s_3.2.2) H locs ls hfn hP hD hS (lv_sub hl [0, 1] rfl)
        exact lp_3 _ (0, 1, s_1.2) H locs ls hfn hP hD hS (lv_sub hl [0, 1] rfl)
      have hfn := (if_neg c_2).symm.trans hfn
      refine lv_aload_n hx hb dX12_beginsChoice_17 rfl (lv_at hl 1 rfl) ?_
      refine va_get (D := (dC, dI)) (ci := 12) (v := .ref (a0 37)) (C := RX12) (T := TX12) (N := 67) hx hb hts zn_X12_beginsChoice_X12 hown hK hP 0 rfl rfl 37 (of_decide_eq_true rfl) (hts (.fieldLink RX12 125 "ShortEnoughModel" "hand" "[I") zw_X12_beginsChoice_1025) (fun _ h9 => h9) rfl dX12_beginsChoice_18 ?_
      refine lv_iload_n hx hb dX12_beginsChoice_21 rfl (lv_at hl 0 rfl) ?_
      refine lv_iconst (v := 0) hx hb dX12_beginsChoice_22 zci_0 ?_
      obtain ⟨h_16, hfn⟩ := zg_s hfn
      refine va_iast hx hb hK hP hD hS 2 1 rfl rfl h_16 dX12_beginsChoice_23 (fun H locs hP hD hS => ?_)
      have hP : va_P (dC, dI) vwCl [(h0, .inr (12, zO a0 (zI b0 38 1) c0)), zVi (a0 17) k1 2 f1, zVi (a0 37) k2 14 (upd s_1.2 s_1.1.toNatClampNeg 0), zVi (a0 25) k3 28 f3, zVi (a0 27) k4 28 f4] H := hP
      have hD := zDW hD hP rfl
      refine lv_iinc (v := (s_1.1 + 1)) (lv' := [(1, .int (s_1.1 + 1)), (0, .ref h0)]) hx hb dX12_beginsChoice_24 hl (k := 0) rfl rfl (of_decide_eq_true rfl) rfl (fun ls hl => ?_)
      refine lv_goto (tgt := 7) hx hb dX12_beginsChoice_27 (of_decide_eq_true rfl) ?_
      exact ih_1 ((s_1.1 + 1), (upd s_1.2 s_1.1.toNatClampNeg 0)) H locs ls hfn hP hD hS (lv_sub hl [0, 1] rfl)
  exact lp_1 _ (0, f2) H locs ls hfn hP hD hS (lv_sub hl [0, 1] rfl)
theorem zn_X12_task_X12 : ∀ w ∈ wsX120, w ∈ wsX12_task := fun _ h => List.mem_cons_of_mem _ (List.mem_append_right _ h)
theorem zw_X12_task_1011 : Cond.fieldLink RX12 13 "ShortEnoughModel" "taped" "I" ∈ wsX12_task := List.mem_of_getElem? (i := 1) (by decide +kernel)
theorem zw_X12_task_1012 : Cond.fieldLink RX12 26 "ShortEnoughModel" "size" "I" ∈ wsX12_task := List.mem_of_getElem? (i := 2) (by decide +kernel)
theorem zw_X12_task_1013 : Cond.fieldLink RX12 29 "ShortEnoughModel" "at" "I" ∈ wsX12_task := List.mem_of_getElem? (i := 3) (by decide +kernel)
theorem zw_X12_task_1014 : Cond.fieldLink RX12 35 "ShortEnoughModel" "wrong" "I" ∈ wsX12_task := List.mem_of_getElem? (i := 4) (by decide +kernel)
theorem zw_X12_task_1015 : Cond.fieldLink RX12 38 "ShortEnoughModel" "wrongAt" "I" ∈ wsX12_task := List.mem_of_getElem? (i := 5) (by decide +kernel)
theorem zw_X12_task_1016 : Cond.fieldLink RX12 44 "ShortEnoughModel" "in" "I" ∈ wsX12_task := List.mem_of_getElem? (i := 6) (by decide +kernel)
theorem zw_X12_task_1017 : Cond.fieldLink RX12 47 "ShortEnoughModel" "formats" "[I" ∈ wsX12_task := List.mem_of_getElem? (i := 7) (by decide +kernel)
theorem zw_X12_task_1018 : Cond.fieldLink RX12 62 "ShortEnoughModel" "numbers" "[I" ∈ wsX12_task := List.mem_of_getElem? (i := 8) (by decide +kernel)
theorem zw_X12_task_1019 : Cond.fieldLink RX12 84 "ShortEnoughModel" "castCost" "[I" ∈ wsX12_task := List.mem_of_getElem? (i := 9) (by decide +kernel)
theorem zw_X12_task_1020 : Cond.fieldLink RX12 20 "ShortEnoughModel" "faultKind" "I" ∈ wsX12_task := List.mem_of_getElem? (i := 10) (by decide +kernel)
theorem zw_X12_task_1021 : Cond.fieldLink RX12 23 "ShortEnoughModel" "faultPlace" "I" ∈ wsX12_task := List.mem_of_getElem? (i := 11) (by decide +kernel)
theorem zw_X12_task_1028 : Cond.fieldLink RX12 189 "ShortEnoughModel" "brokenAt" "I" ∈ wsX12_task := List.mem_of_getElem? (i := 12) (by decide +kernel)
theorem zw_X12_task_1029 : Cond.fieldLink RX12 192 "ShortEnoughModel" "brokenWhy" "I" ∈ wsX12_task := List.mem_of_getElem? (i := 13) (by decide +kernel)
set_option maxHeartbeats 4000000 in
set_option maxRecDepth 100000 in
theorem zf_X12_task (l : Launch) (dC : Nat → ClassId) (dI : Nat → Nat → Nat) (h0 : Nat) (a0 : Nat → Nat) (b0 : Nat → Int32) (c0 : Nat → Int64) (k1 : Nat) (f1 : Nat → Int32) (k2 : Nat) (f2 : Nat → Int32) (k3 : Nat) (f3 : Nat → Int32) (k4 : Nat) (f4 : Nat → Int32) (k5 : Nat) (f5 : Nat → Int32) (k6 : Nat) (f6 : Nat → Int32) (k7 : Nat) (f7 : Nat → Int32) (k8 : Nat) (f8 : Nat → Int32) (k9 : Nat) (f9 : Nat → Int32) (k10 : Nat) (f10 : Nat → Int32) (k11 : Nat) (f11 : Nat → Int32) (k12 : Nat) (f12 : Nat → Int32) (k13 : Nat) (f13 : Nat → Int32) (k14 : Nat) (f14 : Nat → Int32) (k15 : Nat) (f15 : Nat → Int32) (k16 : Nat) (f16 : Nat → Int32) (k17 : Nat) (f17 : Nat → Int64) (k18 : Nat) (f18 : Nat → Int64) (k19 : Nat) (f19 : Nat → Int32) (k20 : Nat) (f20 : Nat → Int32) (o : Int32 × Int32 × Int32 × Int64 × Int32 × Int32 × Int32 × Int32 × Int32 × Int32 × Int32 × Int32 × Int32 × Int32 × (Nat → Int32) × (Nat → Int32) × (Nat → Int32) × (Nat → Int32) × (Nat → Int32) × (Nat → Int32) × (Nat → Int32) × (Nat → Int32) × (Nat → Int32) × (Nat → Int32) × (Nat → Int32) × (Nat → Int32) × (Nat → Int32) × (Nat → Int32) × (Nat → Int64) × (Nat → Int64) × (Nat → Int32) × (Nat → Int32)) (hfn : fn_X12_task (b0 1) (b0 7) (c0 28) (b0 38) (b0 58) (b0 59) f1 f2 f3 f4 f5 f6 f7 f8 f9 f10 f11 f12 f13 f14 f15 f16 f17 f18 f19 f20 = some o) (sz : Nat) : zMi l yX12_task wsX12_task ({ frames := 8, cells := 0, slots := 0, locals := 180 }) (dC, dI) vwCl [.ref h0] [(h0, .inr (12, zO a0 b0 c0)), zVi (a0 12) k1 2 f1, zVi (a0 17) k2 2 f2, zVi (a0 24) k3 2 f3, zVi (a0 0) k4 1200 f4, zVi (a0 10) k5 71 f5, zVi (a0 13) k6 8 f6, zVi (a0 18) k7 28 f7, zVi (a0 14) k8 8 f8, zVi (a0 15) k9 8 f9, zVi (a0 16) k10 8 f10, zVi (a0 26) k11 28 f11, zVi (a0 19) k12 28 f12, zVi (a0 20) k13 28 f13, zVi (a0 21) k14 28 f14, zVi (a0 25) k15 28 f15, zVi (a0 27) k16 28 f16, zVl (a0 22) k17 28 f17, zVl (a0 23) k18 28 f18, zVi (a0 37) k19 14 f19, zVi (a0 2) k20 5 f20] [(k1, .int), (k2, .int), (k3, .int), (k4, .int), (k5, .int), (k6, .int), (k7, .int), (k8, .int), (k9, .int), (k10, .int), (k11, .int), (k12, .int), (k13, .int), (k14, .int), (k15, .int), (k16, .int), (k17, .long), (k18, .long), (k19, .int), (k20, .int)] (fun r _ => r = o.1) [(h0, .inr (12, zO a0 (zI (zI (zI (zI (zI (zI (zI (zI (zI (zI (zI (zI b0 1 o.2.1) 3 o.2.2.2.2.1) 4 o.2.2.2.2.2.2.1) 5 o.2.2.2.2.2.2.2.1) 6 o.2.2.2.2.2.2.2.2.2.2.1) 7 o.2.2.2.2.2.2.2.2.2.2.2.1) 8 o.2.2.2.2.2.2.2.2.2.2.2.2.1) 9 o.2.2.2.2.2.2.2.2.2.2.2.2.2.1) 11 o.2.2.1) 38 o.2.2.2.2.2.1) 58 o.2.2.2.2.2.2.2.2.1) 59 o.2.2.2.2.2.2.2.2.2.1) (zJ c0 28 o.2.2.2.1))), zVi (a0 12) k1 2 o.2.2.2.2.2.2.2.2.2.2.2.2.2.2.1, zVi (a0 17) k2 2 o.2.2.2.2.2.2.2.2.2.2.2.2.2.2.2.1, zVi (a0 24) k3 2 o.2.2.2.2.2.2.2.2.2.2.2.2.2.2.2.2.1, zVi (a0 0) k4 1200 f4, zVi (a0 10) k5 71 f5, zVi (a0 13) k6 8 o.2.2.2.2.2.2.2.2.2.2.2.2.2.2.2.2.2.1, zVi (a0 18) k7 28 o.2.2.2.2.2.2.2.2.2.2.2.2.2.2.2.2.2.2.1, zVi (a0 14) k8 8 o.2.2.2.2.2.2.2.2.2.2.2.2.2.2.2.2.2.2.2.1, zVi (a0 15) k9 8 o.2.2.2.2.2.2.2.2.2.2.2.2.2.2.2.2.2.2.2.2.1, zVi (a0 16) k10 8 o.2.2.2.2.2.2.2.2.2.2.2.2.2.2.2.2.2.2.2.2.2.1, zVi (a0 26) k11 28 o.2.2.2.2.2.2.2.2.2.2.2.2.2.2.2.2.2.2.2.2.2.2.1, zVi (a0 19) k12 28 o.2.2.2.2.2.2.2.2.2.2.2.2.2.2.2.2.2.2.2.2.2.2.2.1, zVi (a0 20) k13 28 o.2.2.2.2.2.2.2.2.2.2.2.2.2.2.2.2.2.2.2.2.2.2.2.2.1, zVi (a0 21) k14 28 o.2.2.2.2.2.2.2.2.2.2.2.2.2.2.2.2.2.2.2.2.2.2.2.2.2.1, zVi (a0 25) k15 28 o.2.2.2.2.2.2.2.2.2.2.2.2.2.2.2.2.2.2.2.2.2.2.2.2.2.2.1, zVi (a0 27) k16 28 o.2.2.2.2.2.2.2.2.2.2.2.2.2.2.2.2.2.2.2.2.2.2.2.2.2.2.2.1, zVl (a0 22) k17 28 o.2.2.2.2.2.2.2.2.2.2.2.2.2.2.2.2.2.2.2.2.2.2.2.2.2.2.2.2.1, zVl (a0 23) k18 28 o.2.2.2.2.2.2.2.2.2.2.2.2.2.2.2.2.2.2.2.2.2.2.2.2.2.2.2.2.2.1, zVi (a0 37) k19 14 o.2.2.2.2.2.2.2.2.2.2.2.2.2.2.2.2.2.2.2.2.2.2.2.2.2.2.2.2.2.2.1, zVi (a0 2) k20 5 o.2.2.2.2.2.2.2.2.2.2.2.2.2.2.2.2.2.2.2.2.2.2.2.2.2.2.2.2.2.2.2] [(k1, .int), (k2, .int), (k3, .int), (k4, .int), (k5, .int), (k6, .int), (k7, .int), (k8, .int), (k9, .int), (k10, .int), (k11, .int), (k12, .int), (k13, .int), (k14, .int), (k15, .int), (k16, .int), (k17, .long), (k18, .long), (k19, .int), (k20, .int)] sz := by
  refine zgoi (cc := cX12_task) (maxL := 2) (ret := (some .int)) (C0 := RX12) (lv0 := [(0, .ref h0)]) zpl_X12 rfl rfl rfl (Nat.le_of_ble_eq_true rfl) ?_
  intro p e s m below meth c A ls Q hx hb hr hts hown hlocks hml hP hK hD hA hS hl hQ
  unfold fn_X12_task at hfn
  refine lv_aload_n hx hb dX12_task_0 rfl (lv_at hl 0 rfl) ?_
  refine lv_aload_n hx hb dX12_task_1 rfl (lv_at hl 0 rfl) ?_
  refine va_get (D := (dC, dI)) (ci := 12) (v := .int (b0 1)) (C := RX12) (T := TX12) (N := 67) hx hb hts zn_X12_task_X12 hown hK hP 0 rfl rfl 1 (of_decide_eq_true rfl) (hts (.fieldLink RX12 13 "ShortEnoughModel" "taped" "I") zw_X12_task_1011) (fun _ h9 => h9) rfl dX12_task_2 ?_
  refine va_put (D := (dC, dI)) (ci := 12) (v := .int (b0 1)) (ty := .int) (C := RX12) (T := TX12) (N := 67) hx hb hts zn_X12_task_X12 tyX12 tyX12_ok nmX12 hown hK hP hD hS 0 rfl rfl 5 (of_decide_eq_true rfl) (hts (.fieldLink RX12 26 "ShortEnoughModel" "size" "I") zw_X12_task_1012) (fun _ h9 => h9) rfl (tyX12_ok 5 (of_decide_eq_true rfl)) rfl rfl (Nat.le_of_ble_eq_true rfl) dX12_task_5 (fun H locs hP hD hS => ?_)
  have hP : va_P (dC, dI) vwCl [(h0, .inr (12, zO a0 (zI b0 5 (b0 1)) c0)), zVi (a0 12) k1 2 f1, zVi (a0 17) k2 2 f2, zVi (a0 24) k3 2 f3, zVi (a0 0) k4 1200 f4, zVi (a0 10) k5 71 f5, zVi (a0 13) k6 8 f6, zVi (a0 18) k7 28 f7, zVi (a0 14) k8 8 f8, zVi (a0 15) k9 8 f9, zVi (a0 16) k10 8 f10, zVi (a0 26) k11 28 f11, zVi (a0 19) k12 28 f12, zVi (a0 20) k13 28 f13, zVi (a0 21) k14 28 f14, zVi (a0 25) k15 28 f15, zVi (a0 27) k16 28 f16, zVl (a0 22) k17 28 f17, zVl (a0 23) k18 28 f18, zVi (a0 37) k19 14 f19, zVi (a0 2) k20 5 f20] H := hP
  have hD := zDW hD hP rfl
  refine lv_aload_n hx hb dX12_task_8 rfl (lv_at hl 0 rfl) ?_
  refine lv_iconst (v := 0) hx hb dX12_task_9 zci_0 ?_
  refine va_put (D := (dC, dI)) (ci := 12) (v := .int 0) (ty := .int) (C := RX12) (T := TX12) (N := 67) hx hb hts zn_X12_task_X12 tyX12 tyX12_ok nmX12 hown hK hP hD hS 0 rfl rfl 1 (of_decide_eq_true rfl) (hts (.fieldLink RX12 13 "ShortEnoughModel" "taped" "I") zw_X12_task_1011) (fun _ h9 => h9) rfl (tyX12_ok 1 (of_decide_eq_true rfl)) rfl rfl (Nat.le_of_ble_eq_true rfl) dX12_task_10 (fun H locs hP hD hS => ?_)
  have hP : va_P (dC, dI) vwCl [(h0, .inr (12, zO a0 (zI (zI b0 1 0) 5 (b0 1)) c0)), zVi (a0 12) k1 2 f1, zVi (a0 17) k2 2 f2, zVi (a0 24) k3 2 f3, zVi (a0 0) k4 1200 f4, zVi (a0 10) k5 71 f5, zVi (a0 13) k6 8 f6, zVi (a0 18) k7 28 f7, zVi (a0 14) k8 8 f8, zVi (a0 15) k9 8 f9, zVi (a0 16) k10 8 f10, zVi (a0 26) k11 28 f11, zVi (a0 19) k12 28 f12, zVi (a0 20) k13 28 f13, zVi (a0 21) k14 28 f14, zVi (a0 25) k15 28 f15, zVi (a0 27) k16 28 f16, zVl (a0 22) k17 28 f17, zVl (a0 23) k18 28 f18, zVi (a0 37) k19 14 f19, zVi (a0 2) k20 5 f20] H := hP
  have hD := zDW hD hP rfl
  refine lv_aload_n hx hb dX12_task_13 rfl (lv_at hl 0 rfl) ?_
  refine lv_iconst (v := 0) hx hb dX12_task_14 zci_0 ?_
  refine va_put (D := (dC, dI)) (ci := 12) (v := .int 0) (ty := .int) (C := RX12) (T := TX12) (N := 67) hx hb hts zn_X12_task_X12 tyX12 tyX12_ok nmX12 hown hK hP hD hS 0 rfl rfl 6 (of_decide_eq_true rfl) (hts (.fieldLink RX12 29 "ShortEnoughModel" "at" "I") zw_X12_task_1013) (fun _ h9 => h9) rfl (tyX12_ok 6 (of_decide_eq_true rfl)) rfl rfl (Nat.le_of_ble_eq_true rfl) dX12_task_15 (fun H locs hP hD hS => ?_)
  have hP : va_P (dC, dI) vwCl [(h0, .inr (12, zO a0 (zI (zI (zI b0 1 0) 5 (b0 1)) 6 0) c0)), zVi (a0 12) k1 2 f1, zVi (a0 17) k2 2 f2, zVi (a0 24) k3 2 f3, zVi (a0 0) k4 1200 f4, zVi (a0 10) k5 71 f5, zVi (a0 13) k6 8 f6, zVi (a0 18) k7 28 f7, zVi (a0 14) k8 8 f8, zVi (a0 15) k9 8 f9, zVi (a0 16) k10 8 f10, zVi (a0 26) k11 28 f11, zVi (a0 19) k12 28 f12, zVi (a0 20) k13 28 f13, zVi (a0 21) k14 28 f14, zVi (a0 25) k15 28 f15, zVi (a0 27) k16 28 f16, zVl (a0 22) k17 28 f17, zVl (a0 23) k18 28 f18, zVi (a0 37) k19 14 f19, zVi (a0 2) k20 5 f20] H := hP
  have hD := zDW hD hP rfl
  refine lv_aload_n hx hb dX12_task_18 rfl (lv_at hl 0 rfl) ?_
  refine lv_iconst (v := 0) hx hb dX12_task_19 zci_0 ?_
  refine va_put (D := (dC, dI)) (ci := 12) (v := .int 0) (ty := .int) (C := RX12) (T := TX12) (N := 67) hx hb hts zn_X12_task_X12 tyX12 tyX12_ok nmX12 hown hK hP hD hS 0 rfl rfl 8 (of_decide_eq_true rfl) (hts (.fieldLink RX12 35 "ShortEnoughModel" "wrong" "I") zw_X12_task_1014) (fun _ h9 => h9) rfl (tyX12_ok 8 (of_decide_eq_true rfl)) rfl rfl (Nat.le_of_ble_eq_true rfl) dX12_task_20 (fun H locs hP hD hS => ?_)
  have hP : va_P (dC, dI) vwCl [(h0, .inr (12, zO a0 (zI (zI (zI (zI b0 1 0) 5 (b0 1)) 6 0) 8 0) c0)), zVi (a0 12) k1 2 f1, zVi (a0 17) k2 2 f2, zVi (a0 24) k3 2 f3, zVi (a0 0) k4 1200 f4, zVi (a0 10) k5 71 f5, zVi (a0 13) k6 8 f6, zVi (a0 18) k7 28 f7, zVi (a0 14) k8 8 f8, zVi (a0 15) k9 8 f9, zVi (a0 16) k10 8 f10, zVi (a0 26) k11 28 f11, zVi (a0 19) k12 28 f12, zVi (a0 20) k13 28 f13, zVi (a0 21) k14 28 f14, zVi (a0 25) k15 28 f15, zVi (a0 27) k16 28 f16, zVl (a0 22) k17 28 f17, zVl (a0 23) k18 28 f18, zVi (a0 37) k19 14 f19, zVi (a0 2) k20 5 f20] H := hP
  have hD := zDW hD hP rfl
  refine lv_aload_n hx hb dX12_task_23 rfl (lv_at hl 0 rfl) ?_
  refine lv_iconst (v := (-1)) hx hb dX12_task_24 zci_m1 ?_
  refine va_put (D := (dC, dI)) (ci := 12) (v := .int (-1)) (ty := .int) (C := RX12) (T := TX12) (N := 67) hx hb hts zn_X12_task_X12 tyX12 tyX12_ok nmX12 hown hK hP hD hS 0 rfl rfl 9 (of_decide_eq_true rfl) (hts (.fieldLink RX12 38 "ShortEnoughModel" "wrongAt" "I") zw_X12_task_1015) (fun _ h9 => h9) rfl (tyX12_ok 9 (of_decide_eq_true rfl)) rfl rfl (Nat.le_of_ble_eq_true rfl) dX12_task_25 (fun H locs hP hD hS => ?_)
  have hP : va_P (dC, dI) vwCl [(h0, .inr (12, zO a0 (zI (zI (zI (zI (zI b0 1 0) 5 (b0 1)) 6 0) 8 0) 9 (-1)) c0)), zVi (a0 12) k1 2 f1, zVi (a0 17) k2 2 f2, zVi (a0 24) k3 2 f3, zVi (a0 0) k4 1200 f4, zVi (a0 10) k5 71 f5, zVi (a0 13) k6 8 f6, zVi (a0 18) k7 28 f7, zVi (a0 14) k8 8 f8, zVi (a0 15) k9 8 f9, zVi (a0 16) k10 8 f10, zVi (a0 26) k11 28 f11, zVi (a0 19) k12 28 f12, zVi (a0 20) k13 28 f13, zVi (a0 21) k14 28 f14, zVi (a0 25) k15 28 f15, zVi (a0 27) k16 28 f16, zVl (a0 22) k17 28 f17, zVl (a0 23) k18 28 f18, zVi (a0 37) k19 14 f19, zVi (a0 2) k20 5 f20] H := hP
  have hD := zDW hD hP rfl
  refine lv_aload_n hx hb dX12_task_28 rfl (lv_at hl 0 rfl) ?_
  refine lv_iconst (v := 1) hx hb dX12_task_29 zci_1 ?_
  refine va_put (D := (dC, dI)) (ci := 12) (v := .int 1) (ty := .int) (C := RX12) (T := TX12) (N := 67) hx hb hts zn_X12_task_X12 tyX12 tyX12_ok nmX12 hown hK hP hD hS 0 rfl rfl 11 (of_decide_eq_true rfl) (hts (.fieldLink RX12 44 "ShortEnoughModel" "in" "I") zw_X12_task_1016) (fun _ h9 => h9) rfl (tyX12_ok 11 (of_decide_eq_true rfl)) rfl rfl (Nat.le_of_ble_eq_true rfl) dX12_task_30 (fun H locs hP hD hS => ?_)
  have hP : va_P (dC, dI) vwCl [(h0, .inr (12, zO a0 (zI (zI (zI (zI (zI (zI b0 1 0) 5 (b0 1)) 6 0) 8 0) 9 (-1)) 11 1) c0)), zVi (a0 12) k1 2 f1, zVi (a0 17) k2 2 f2, zVi (a0 24) k3 2 f3, zVi (a0 0) k4 1200 f4, zVi (a0 10) k5 71 f5, zVi (a0 13) k6 8 f6, zVi (a0 18) k7 28 f7, zVi (a0 14) k8 8 f8, zVi (a0 15) k9 8 f9, zVi (a0 16) k10 8 f10, zVi (a0 26) k11 28 f11, zVi (a0 19) k12 28 f12, zVi (a0 20) k13 28 f13, zVi (a0 21) k14 28 f14, zVi (a0 25) k15 28 f15, zVi (a0 27) k16 28 f16, zVl (a0 22) k17 28 f17, zVl (a0 23) k18 28 f18, zVi (a0 37) k19 14 f19, zVi (a0 2) k20 5 f20] H := hP
  have hD := zDW hD hP rfl
  refine lv_aload_n hx hb dX12_task_33 rfl (lv_at hl 0 rfl) ?_
  refine va_get (D := (dC, dI)) (ci := 12) (v := .ref (a0 12)) (C := RX12) (T := TX12) (N := 67) hx hb hts zn_X12_task_X12 hown hK hP 0 rfl rfl 12 (of_decide_eq_true rfl) (hts (.fieldLink RX12 47 "ShortEnoughModel" "formats" "[I") zw_X12_task_1017) (fun _ h9 => h9) rfl dX12_task_34 ?_
  refine lv_iconst (v := 1) hx hb dX12_task_37 zci_1 ?_
  refine lv_iconst (v := 0) hx hb dX12_task_38 zci_0 ?_
  refine va_iast hx hb hK hP hD hS 1 0 rfl rfl (zv_in (by decide +kernel)) dX12_task_39 (fun H locs hP hD hS => ?_)
  have hP : va_P (dC, dI) vwCl [(h0, .inr (12, zO a0 (zI (zI (zI (zI (zI (zI b0 1 0) 5 (b0 1)) 6 0) 8 0) 9 (-1)) 11 1) c0)), zVi (a0 12) k1 2 (upd f1 (1 : Int32).toNatClampNeg 0), zVi (a0 17) k2 2 f2, zVi (a0 24) k3 2 f3, zVi (a0 0) k4 1200 f4, zVi (a0 10) k5 71 f5, zVi (a0 13) k6 8 f6, zVi (a0 18) k7 28 f7, zVi (a0 14) k8 8 f8, zVi (a0 15) k9 8 f9, zVi (a0 16) k10 8 f10, zVi (a0 26) k11 28 f11, zVi (a0 19) k12 28 f12, zVi (a0 20) k13 28 f13, zVi (a0 21) k14 28 f14, zVi (a0 25) k15 28 f15, zVi (a0 27) k16 28 f16, zVl (a0 22) k17 28 f17, zVl (a0 23) k18 28 f18, zVi (a0 37) k19 14 f19, zVi (a0 2) k20 5 f20] H := hP
  have hD := zDW hD hP rfl
  refine lv_aload_n hx hb dX12_task_40 rfl (lv_at hl 0 rfl) ?_
  refine va_get (D := (dC, dI)) (ci := 12) (v := .ref (a0 17)) (C := RX12) (T := TX12) (N := 67) hx hb hts zn_X12_task_X12 hown hK hP 0 rfl rfl 17 (of_decide_eq_true rfl) (hts (.fieldLink RX12 62 "ShortEnoughModel" "numbers" "[I") zw_X12_task_1018) (fun _ h9 => h9) rfl dX12_task_41 ?_
  refine lv_iconst (v := 1) hx hb dX12_task_44 zci_1 ?_
  refine lv_iconst (v := 0) hx hb dX12_task_45 zci_0 ?_
  refine va_iast hx hb hK hP hD hS 2 1 rfl rfl (zv_in (by decide +kernel)) dX12_task_46 (fun H locs hP hD hS => ?_)
  have hP : va_P (dC, dI) vwCl [(h0, .inr (12, zO a0 (zI (zI (zI (zI (zI (zI b0 1 0) 5 (b0 1)) 6 0) 8 0) 9 (-1)) 11 1) c0)), zVi (a0 12) k1 2 (upd f1 (1 : Int32).toNatClampNeg 0), zVi (a0 17) k2 2 (upd f2 (1 : Int32).toNatClampNeg 0), zVi (a0 24) k3 2 f3, zVi (a0 0) k4 1200 f4, zVi (a0 10) k5 71 f5, zVi (a0 13) k6 8 f6, zVi (a0 18) k7 28 f7, zVi (a0 14) k8 8 f8, zVi (a0 15) k9 8 f9, zVi (a0 16) k10 8 f10, zVi (a0 26) k11 28 f11, zVi (a0 19) k12 28 f12, zVi (a0 20) k13 28 f13, zVi (a0 21) k14 28 f14, zVi (a0 25) k15 28 f15, zVi (a0 27) k16 28 f16, zVl (a0 22) k17 28 f17, zVl (a0 23) k18 28 f18, zVi (a0 37) k19 14 f19, zVi (a0 2) k20 5 f20] H := hP
  have hD := zDW hD hP rfl
  refine lv_aload_n hx hb dX12_task_47 rfl (lv_at hl 0 rfl) ?_
  refine va_get (D := (dC, dI)) (ci := 12) (v := .ref (a0 24)) (C := RX12) (T := TX12) (N := 67) hx hb hts zn_X12_task_X12 hown hK hP 0 rfl rfl 24 (of_decide_eq_true rfl) (hts (.fieldLink RX12 84 "ShortEnoughModel" "castCost" "[I") zw_X12_task_1019) (fun _ h9 => h9) rfl dX12_task_48 ?_
  refine lv_iconst (v := 1) hx hb dX12_task_51 zci_1 ?_
  refine lv_iconst (v := 1) hx hb dX12_task_52 zci_1 ?_
  refine va_iast hx hb hK hP hD hS 3 2 rfl rfl (zv_in (by decide +kernel)) dX12_task_53 (fun H locs hP hD hS => ?_)
  have hP : va_P (dC, dI) vwCl [(h0, .inr (12, zO a0 (zI (zI (zI (zI (zI (zI b0 1 0) 5 (b0 1)) 6 0) 8 0) 9 (-1)) 11 1) c0)), zVi (a0 12) k1 2 (upd f1 (1 : Int32).toNatClampNeg 0), zVi (a0 17) k2 2 (upd f2 (1 : Int32).toNatClampNeg 0), zVi (a0 24) k3 2 (upd f3 (1 : Int32).toNatClampNeg 1), zVi (a0 0) k4 1200 f4, zVi (a0 10) k5 71 f5, zVi (a0 13) k6 8 f6, zVi (a0 18) k7 28 f7, zVi (a0 14) k8 8 f8, zVi (a0 15) k9 8 f9, zVi (a0 16) k10 8 f10, zVi (a0 26) k11 28 f11, zVi (a0 19) k12 28 f12, zVi (a0 20) k13 28 f13, zVi (a0 21) k14 28 f14, zVi (a0 25) k15 28 f15, zVi (a0 27) k16 28 f16, zVl (a0 22) k17 28 f17, zVl (a0 23) k18 28 f18, zVi (a0 37) k19 14 f19, zVi (a0 2) k20 5 f20] H := hP
  have hD := zDW hD hP rfl
  refine lv_iconst (v := 0) hx hb dX12_task_54 zci_0 ?_
  refine lv_istore_n (lv' := [(1, .int 0), (0, .ref h0)]) hx hb dX12_task_55 rfl hl (of_decide_eq_true rfl) rfl (fun ls hl => ?_)
  obtain ⟨bd_1, ebd_1, hfn⟩ := zl_g hfn
  have lp_1 : ∀ (n : Nat) (s_1 : Int32 × Int64 × Int32 × Int32 × Int32 × Int32 × (Nat → Int32) × (Nat → Int32) × (Nat → Int32) × (Nat → Int32) × (Nat → Int32) × (Nat → Int32) × (Nat → Int32) × (Nat → Int32) × (Nat → Int32) × (Nat → Int32) × (Nat → Int64) × (Nat → Int64) × (Nat → Int32) × (Nat → Int32) × (Nat → Int32) × (Nat → Int32)) (H : Heap) (locs : List Loc) (ls : Array Slot), zl bd_1 n s_1 = some o → va_P (dC, dI) vwCl [(h0, .inr (12, zO a0 (zI (zI (zI (zI (zI (zI (zI b0 1 0) 5 (b0 1)) 6 s_1.2.2.1) 7 s_1.2.2.2.1) 8 s_1.2.2.2.2.1) 9 s_1.2.2.2.2.2.1) 11 1) (zJ c0 28 s_1.2.1))), zVi (a0 12) k1 2 s_1.2.2.2.2.2.2.1, zVi (a0 17) k2 2 s_1.2.2.2.2.2.2.2.2.2.2.2.1, zVi (a0 24) k3 2 s_1.2.2.2.2.2.2.2.2.2.2.2.2.2.2.2.2.2.2.1, zVi (a0 0) k4 1200 f4, zVi (a0 10) k5 71 f5, zVi (a0 13) k6 8 s_1.2.2.2.2.2.2.2.1, zVi (a0 18) k7 28 s_1.2.2.2.2.2.2.2.2.2.2.2.2.1, zVi (a0 14) k8 8 s_1.2.2.2.2.2.2.2.2.1, zVi (a0 15) k9 8 s_1.2.2.2.2.2.2.2.2.2.1, zVi (a0 16) k10 8 s_1.2.2.2.2.2.2.2.2.2.2.1, zVi (a0 26) k11 28 s_1.2.2.2.2.2.2.2.2.2.2.2.2.2.2.2.2.2.2.2.2.1, zVi (a0 19) k12 28 s_1.2.2.2.2.2.2.2.2.2.2.2.2.2.1, zVi (a0 20) k13 28 s_1.2.2.2.2.2.2.2.2.2.2.2.2.2.2.1, zVi (a0 21) k14 28 s_1.2.2.2.2.2.2.2.2.2.2.2.2.2.2.2.1, zVi (a0 25) k15 28 s_1.2.2.2.2.2.2.2.2.2.2.2.2.2.2.2.2.2.2.2.1, zVi (a0 27) k16 28 s_1.2.2.2.2.2.2.2.2.2.2.2.2.2.2.2.2.2.2.2.2.2, zVl (a0 22) k17 28 s_1.2.2.2.2.2.2.2.2.2.2.2.2.2.2.2.2.1, zVl (a0 23) k18 28 s_1.2.2.2.2.2.2.2.2.2.2.2.2.2.2.2.2.2.1, zVi (a0 37) k19 14 f19, zVi (a0 2) k20 5 f20] H → va_D A [(h0, .inr (12, zO a0 (zI (zI (zI (zI (zI (zI (zI b0 1 0) 5 (b0 1)) 6 s_1.2.2.1) 7 s_1.2.2.2.1) 8 s_1.2.2.2.2.1) 9 s_1.2.2.2.2.2.1) 11 1) (zJ c0 28 s_1.2.1))), zVi (a0 12) k1 2 s_1.2.2.2.2.2.2.1, zVi (a0 17) k2 2 s_1.2.2.2.2.2.2.2.2.2.2.2.1, zVi (a0 24) k3 2 s_1.2.2.2.2.2.2.2.2.2.2.2.2.2.2.2.2.2.2.1, zVi (a0 0) k4 1200 f4, zVi (a0 10) k5 71 f5, zVi (a0 13) k6 8 s_1.2.2.2.2.2.2.2.1, zVi (a0 18) k7 28 s_1.2.2.2.2.2.2.2.2.2.2.2.2.1, zVi (a0 14) k8 8 s_1.2.2.2.2.2.2.2.2.1, zVi (a0 15) k9 8 s_1.2.2.2.2.2.2.2.2.2.1, zVi (a0 16) k10 8 s_1.2.2.2.2.2.2.2.2.2.2.1, zVi (a0 26) k11 28 s_1.2.2.2.2.2.2.2.2.2.2.2.2.2.2.2.2.2.2.2.2.1, zVi (a0 19) k12 28 s_1.2.2.2.2.2.2.2.2.2.2.2.2.2.1, zVi (a0 20) k13 28 s_1.2.2.2.2.2.2.2.2.2.2.2.2.2.2.1, zVi (a0 21) k14 28 s_1.2.2.2.2.2.2.2.2.2.2.2.2.2.2.2.1, zVi (a0 25) k15 28 s_1.2.2.2.2.2.2.2.2.2.2.2.2.2.2.2.2.2.2.2.1, zVi (a0 27) k16 28 s_1.2.2.2.2.2.2.2.2.2.2.2.2.2.2.2.2.2.2.2.2.2, zVl (a0 22) k17 28 s_1.2.2.2.2.2.2.2.2.2.2.2.2.2.2.2.2.1, zVl (a0 23) k18 28 s_1.2.2.2.2.2.2.2.2.2.2.2.2.2.2.2.2.2.1, zVi (a0 37) k19 14 f19, zVi (a0 2) k20 5 f20] → va_S A s.heap H locs → lv_has ls 2 [(1, .int s_1.1), (0, .ref h0)] → W p l e (headSpec wsX12_task ({ frames := 8, cells := 0, slots := 0, locals := 180 })).room s m ([.ref h0] : List Value).toArray below meth c H locs 0 0 Q (F0 m 56 ls []) := by
    intro n
    induction n with
    | zero => exact fun _ _ _ _ hfn => (zl_0 hfn).elim
    | succ n ih_1 =>
      intro s_1 H locs ls hfn hP hD hS hl
      have hfn := zl_s ebd_1 hfn
      refine lv_aload_n hx hb dX12_task_56 rfl (lv_at hl 1 rfl) ?_
      obtain ⟨o_2, hqo_2, hfn⟩ := zb_s hfn
      refine zcVb (ci := 12) (rest := []) (pc' := 60) (ws' := [(h0, .inr (12, zO a0 (zI (zI (zI (zI (zI (zI (zI b0 1 0) 5 (b0 1)) 6 s_1.2.2.1) 7 s_1.2.2.2.1) 8 s_1.2.2.2.2.1) 9 s_1.2.2.2.2.2.1) 11 1) (zJ c0 28 s_1.2.1))), zVi (a0 12) k1 2 s_1.2.2.2.2.2.2.1, zVi (a0 17) k2 2 s_1.2.2.2.2.2.2.2.2.2.2.2.1, zVi (a0 24) k3 2 s_1.2.2.2.2.2.2.2.2.2.2.2.2.2.2.2.2.2.2.1, zVi (a0 0) k4 1200 f4, zVi (a0 10) k5 71 f5, zVi (a0 13) k6 8 s_1.2.2.2.2.2.2.2.1, zVi (a0 18) k7 28 s_1.2.2.2.2.2.2.2.2.2.2.2.2.1, zVi (a0 14) k8 8 s_1.2.2.2.2.2.2.2.2.1, zVi (a0 15) k9 8 s_1.2.2.2.2.2.2.2.2.2.1, zVi (a0 16) k10 8 s_1.2.2.2.2.2.2.2.2.2.2.1, zVi (a0 26) k11 28 s_1.2.2.2.2.2.2.2.2.2.2.2.2.2.2.2.2.2.2.2.2.1, zVi (a0 19) k12 28 s_1.2.2.2.2.2.2.2.2.2.2.2.2.2.1, zVi (a0 20) k13 28 s_1.2.2.2.2.2.2.2.2.2.2.2.2.2.2.1, zVi (a0 21) k14 28 s_1.2.2.2.2.2.2.2.2.2.2.2.2.2.2.2.1, zVi (a0 25) k15 28 s_1.2.2.2.2.2.2.2.2.2.2.2.2.2.2.2.2.2.2.2.1, zVi (a0 27) k16 28 s_1.2.2.2.2.2.2.2.2.2.2.2.2.2.2.2.2.2.2.2.2.2, zVl (a0 22) k17 28 s_1.2.2.2.2.2.2.2.2.2.2.2.2.2.2.2.2.1, zVl (a0 23) k18 28 s_1.2.2.2.2.2.2.2.2.2.2.2.2.2.2.2.2.2.1, zVi (a0 37) k19 14 f19, zVi (a0 2) k20 5 f20]) hP hK hD hS hA ⟨hx, hb, hml, hown, hts⟩ (zf_X12_goesWell l dC dI h0 a0 (zI (zI (zI (zI (zI (zI (zI b0 1 0) 5 (b0 1)) 6 s_1.2.2.1) 7 s_1.2.2.2.1) 8 s_1.2.2.2.2.1) 9 s_1.2.2.2.2.2.1) 11 1) (zJ c0 28 s_1.2.1) o_2 hqo_2 H.size) (cwV 0 hts gX12_task_X12_goesWell rfl rfl rfl zhd_X12_goesWell ⟨Nat.le_of_ble_eq_true rfl, Nat.le_of_ble_eq_true rfl⟩) [0] rfl (of_decide_eq_true rfl) [] rfl rfl rfl rfl hl.1 rfl (Nat.le_of_ble_eq_true rfl) dX12_task_57 ⟨Nat.le_of_ble_eq_true rfl, Nat.le_of_ble_eq_true rfl⟩ [some 0] (of_decide_eq_true rfl) (of_decide_eq_true rfl) rfl rfl rfl (fun H locs hw_5n hP hD hS => ?_)
      obtain ⟨j_6, ej_6, hfn⟩ := zj_g hfn
      have jp_6 : ∀ (s_6 : Int32) (H : Heap) (locs : List Loc) (ls : Array Slot), j_6 s_6 = some o → va_P (dC, dI) vwCl [(h0, .inr (12, zO a0 (zI (zI (zI (zI (zI (zI (zI b0 1 0) 5 (b0 1)) 6 s_6) 7 s_1.2.2.2.1) 8 s_1.2.2.2.2.1) 9 s_1.2.2.2.2.2.1) 11 1) (zJ c0 28 s_1.2.1))), zVi (a0 12) k1 2 s_1.2.2.2.2.2.2.1, zVi (a0 17) k2 2 s_1.2.2.2.2.2.2.2.2.2.2.2.1, zVi (a0 24) k3 2 s_1.2.2.2.2.2.2.2.2.2.2.2.2.2.2.2.2.2.2.1, zVi (a0 0) k4 1200 f4, zVi (a0 10) k5 71 f5, zVi (a0 13) k6 8 s_1.2.2.2.2.2.2.2.1, zVi (a0 18) k7 28 s_1.2.2.2.2.2.2.2.2.2.2.2.2.1, zVi (a0 14) k8 8 s_1.2.2.2.2.2.2.2.2.1, zVi (a0 15) k9 8 s_1.2.2.2.2.2.2.2.2.2.1, zVi (a0 16) k10 8 s_1.2.2.2.2.2.2.2.2.2.2.1, zVi (a0 26) k11 28 s_1.2.2.2.2.2.2.2.2.2.2.2.2.2.2.2.2.2.2.2.2.1, zVi (a0 19) k12 28 s_1.2.2.2.2.2.2.2.2.2.2.2.2.2.1, zVi (a0 20) k13 28 s_1.2.2.2.2.2.2.2.2.2.2.2.2.2.2.1, zVi (a0 21) k14 28 s_1.2.2.2.2.2.2.2.2.2.2.2.2.2.2.2.1, zVi (a0 25) k15 28 s_1.2.2.2.2.2.2.2.2.2.2.2.2.2.2.2.2.2.2.2.1, zVi (a0 27) k16 28 s_1.2.2.2.2.2.2.2.2.2.2.2.2.2.2.2.2.2.2.2.2.2, zVl (a0 22) k17 28 s_1.2.2.2.2.2.2.2.2.2.2.2.2.2.2.2.2.1, zVl (a0 23) k18 28 s_1.2.2.2.2.2.2.2.2.2.2.2.2.2.2.2.2.2.1, zVi (a0 37) k19 14 f19, zVi (a0 2) k20 5 f20] H → va_D A [(h0, .inr (12, zO a0 (zI (zI (zI (zI (zI (zI (zI b0 1 0) 5 (b0 1)) 6 s_6) 7 s_1.2.2.2.1) 8 s_1.2.2.2.2.1) 9 s_1.2.2.2.2.2.1) 11 1) (zJ c0 28 s_1.2.1))), zVi (a0 12) k1 2 s_1.2.2.2.2.2.2.1, zVi (a0 17) k2 2 s_1.2.2.2.2.2.2.2.2.2.2.2.1, zVi (a0 24) k3 2 s_1.2.2.2.2.2.2.2.2.2.2.2.2.2.2.2.2.2.2.1, zVi (a0 0) k4 1200 f4, zVi (a0 10) k5 71 f5, zVi (a0 13) k6 8 s_1.2.2.2.2.2.2.2.1, zVi (a0 18) k7 28 s_1.2.2.2.2.2.2.2.2.2.2.2.2.1, zVi (a0 14) k8 8 s_1.2.2.2.2.2.2.2.2.1, zVi (a0 15) k9 8 s_1.2.2.2.2.2.2.2.2.2.1, zVi (a0 16) k10 8 s_1.2.2.2.2.2.2.2.2.2.2.1, zVi (a0 26) k11 28 s_1.2.2.2.2.2.2.2.2.2.2.2.2.2.2.2.2.2.2.2.2.1, zVi (a0 19) k12 28 s_1.2.2.2.2.2.2.2.2.2.2.2.2.2.1, zVi (a0 20) k13 28 s_1.2.2.2.2.2.2.2.2.2.2.2.2.2.2.1, zVi (a0 21) k14 28 s_1.2.2.2.2.2.2.2.2.2.2.2.2.2.2.2.1, zVi (a0 25) k15 28 s_1.2.2.2.2.2.2.2.2.2.2.2.2.2.2.2.2.2.2.2.1, zVi (a0 27) k16 28 s_1.2.2.2.2.2.2.2.2.2.2.2.2.2.2.2.2.2.2.2.2.2, zVl (a0 22) k17 28 s_1.2.2.2.2.2.2.2.2.2.2.2.2.2.2.2.2.1, zVl (a0 23) k18 28 s_1.2.2.2.2.2.2.2.2.2.2.2.2.2.2.2.2.2.1, zVi (a0 37) k19 14 f19, zVi (a0 2) k20 5 f20] → va_S A s.heap H locs → lv_has ls 2 [(0, .ref h0)] → W p l e (headSpec wsX12_task ({ frames := 8, cells := 0, slots := 0, locals := 180 })).room s m ([.ref h0] : List Value).toArray below meth c H locs 0 0 Q (F0 m 82 ls []) := by
        intro s_6 H locs ls hfn hP hD hS hl
        have hfn := zj_s ej_6 hfn
        refine lv_aload_n hx hb dX12_task_82 rfl (lv_at hl 0 rfl) ?_
        obtain ⟨o_7, hqo_7, hfn⟩ := zb_s hfn
        refine zcVb (ci := 12) (rest := []) (pc' := 86) (ws' := [(h0, .inr (12, zO a0 (zI (zI (zI (zI (zI (zI (zI b0 1 0) 5 (b0 1)) 6 s_6) 7 s_1.2.2.2.1) 8 s_1.2.2.2.2.1) 9 s_1.2.2.2.2.2.1) 11 1) (zJ c0 28 s_1.2.1))), zVi (a0 12) k1 2 s_1.2.2.2.2.2.2.1, zVi (a0 17) k2 2 s_1.2.2.2.2.2.2.2.2.2.2.2.1, zVi (a0 24) k3 2 s_1.2.2.2.2.2.2.2.2.2.2.2.2.2.2.2.2.2.2.1, zVi (a0 0) k4 1200 f4, zVi (a0 10) k5 71 f5, zVi (a0 13) k6 8 s_1.2.2.2.2.2.2.2.1, zVi (a0 18) k7 28 s_1.2.2.2.2.2.2.2.2.2.2.2.2.1, zVi (a0 14) k8 8 s_1.2.2.2.2.2.2.2.2.1, zVi (a0 15) k9 8 s_1.2.2.2.2.2.2.2.2.2.1, zVi (a0 16) k10 8 s_1.2.2.2.2.2.2.2.2.2.2.1, zVi (a0 26) k11 28 s_1.2.2.2.2.2.2.2.2.2.2.2.2.2.2.2.2.2.2.2.2.1, zVi (a0 19) k12 28 s_1.2.2.2.2.2.2.2.2.2.2.2.2.2.1, zVi (a0 20) k13 28 s_1.2.2.2.2.2.2.2.2.2.2.2.2.2.2.1, zVi (a0 21) k14 28 s_1.2.2.2.2.2.2.2.2.2.2.2.2.2.2.2.1, zVi (a0 25) k15 28 s_1.2.2.2.2.2.2.2.2.2.2.2.2.2.2.2.2.2.2.2.1, zVi (a0 27) k16 28 s_1.2.2.2.2.2.2.2.2.2.2.2.2.2.2.2.2.2.2.2.2.2, zVl (a0 22) k17 28 s_1.2.2.2.2.2.2.2.2.2.2.2.2.2.2.2.2.1, zVl (a0 23) k18 28 s_1.2.2.2.2.2.2.2.2.2.2.2.2.2.2.2.2.2.1, zVi (a0 37) k19 14 f19, zVi (a0 2) k20 5 f20]) hP hK hD hS hA ⟨hx, hb, hml, hown, hts⟩ (zf_X12_goesWell l dC dI h0 a0 (zI (zI (zI (zI (zI (zI (zI b0 1 0) 5 (b0 1)) 6 s_6) 7 s_1.2.2.2.1) 8 s_1.2.2.2.2.1) 9 s_1.2.2.2.2.2.1) 11 1) (zJ c0 28 s_1.2.1) o_7 hqo_7 H.size) (cwV 0 hts gX12_task_X12_goesWell rfl rfl rfl zhd_X12_goesWell ⟨Nat.le_of_ble_eq_true rfl, Nat.le_of_ble_eq_true rfl⟩) [0] rfl (of_decide_eq_true rfl) [] rfl rfl rfl rfl hl.1 rfl (Nat.le_of_ble_eq_true rfl) dX12_task_83 ⟨Nat.le_of_ble_eq_true rfl, Nat.le_of_ble_eq_true rfl⟩ [some 0] (of_decide_eq_true rfl) (of_decide_eq_true rfl) rfl rfl rfl (fun H locs hw_10n hP hD hS => ?_)
        obtain ⟨j_11, ej_11, hfn⟩ := zj_g hfn
        have jp_11 : ∀ (s_11 : Int32 × Int32) (H : Heap) (locs : List Loc) (ls : Array Slot), j_11 s_11 = some o → va_P (dC, dI) vwCl [(h0, .inr (12, zO a0 (zI (zI (zI (zI (zI (zI (zI b0 1 0) 5 (b0 1)) 6 s_6) 7 s_1.2.2.2.1) 8 s_11.1) 9 s_11.2) 11 1) (zJ c0 28 s_1.2.1))), zVi (a0 12) k1 2 s_1.2.2.2.2.2.2.1, zVi (a0 17) k2 2 s_1.2.2.2.2.2.2.2.2.2.2.2.1, zVi (a0 24) k3 2 s_1.2.2.2.2.2.2.2.2.2.2.2.2.2.2.2.2.2.2.1, zVi (a0 0) k4 1200 f4, zVi (a0 10) k5 71 f5, zVi (a0 13) k6 8 s_1.2.2.2.2.2.2.2.1, zVi (a0 18) k7 28 s_1.2.2.2.2.2.2.2.2.2.2.2.2.1, zVi (a0 14) k8 8 s_1.2.2.2.2.2.2.2.2.1, zVi (a0 15) k9 8 s_1.2.2.2.2.2.2.2.2.2.1, zVi (a0 16) k10 8 s_1.2.2.2.2.2.2.2.2.2.2.1, zVi (a0 26) k11 28 s_1.2.2.2.2.2.2.2.2.2.2.2.2.2.2.2.2.2.2.2.2.1, zVi (a0 19) k12 28 s_1.2.2.2.2.2.2.2.2.2.2.2.2.2.1, zVi (a0 20) k13 28 s_1.2.2.2.2.2.2.2.2.2.2.2.2.2.2.1, zVi (a0 21) k14 28 s_1.2.2.2.2.2.2.2.2.2.2.2.2.2.2.2.1, zVi (a0 25) k15 28 s_1.2.2.2.2.2.2.2.2.2.2.2.2.2.2.2.2.2.2.2.1, zVi (a0 27) k16 28 s_1.2.2.2.2.2.2.2.2.2.2.2.2.2.2.2.2.2.2.2.2.2, zVl (a0 22) k17 28 s_1.2.2.2.2.2.2.2.2.2.2.2.2.2.2.2.2.1, zVl (a0 23) k18 28 s_1.2.2.2.2.2.2.2.2.2.2.2.2.2.2.2.2.2.1, zVi (a0 37) k19 14 f19, zVi (a0 2) k20 5 f20] H → va_D A [(h0, .inr (12, zO a0 (zI (zI (zI (zI (zI (zI (zI b0 1 0) 5 (b0 1)) 6 s_6) 7 s_1.2.2.2.1) 8 s_11.1) 9 s_11.2) 11 1) (zJ c0 28 s_1.2.1))), zVi (a0 12) k1 2 s_1.2.2.2.2.2.2.1, zVi (a0 17) k2 2 s_1.2.2.2.2.2.2.2.2.2.2.2.1, zVi (a0 24) k3 2 s_1.2.2.2.2.2.2.2.2.2.2.2.2.2.2.2.2.2.2.1, zVi (a0 0) k4 1200 f4, zVi (a0 10) k5 71 f5, zVi (a0 13) k6 8 s_1.2.2.2.2.2.2.2.1, zVi (a0 18) k7 28 s_1.2.2.2.2.2.2.2.2.2.2.2.2.1, zVi (a0 14) k8 8 s_1.2.2.2.2.2.2.2.2.1, zVi (a0 15) k9 8 s_1.2.2.2.2.2.2.2.2.2.1, zVi (a0 16) k10 8 s_1.2.2.2.2.2.2.2.2.2.2.1, zVi (a0 26) k11 28 s_1.2.2.2.2.2.2.2.2.2.2.2.2.2.2.2.2.2.2.2.2.1, zVi (a0 19) k12 28 s_1.2.2.2.2.2.2.2.2.2.2.2.2.2.1, zVi (a0 20) k13 28 s_1.2.2.2.2.2.2.2.2.2.2.2.2.2.2.1, zVi (a0 21) k14 28 s_1.2.2.2.2.2.2.2.2.2.2.2.2.2.2.2.1, zVi (a0 25) k15 28 s_1.2.2.2.2.2.2.2.2.2.2.2.2.2.2.2.2.2.2.2.1, zVi (a0 27) k16 28 s_1.2.2.2.2.2.2.2.2.2.2.2.2.2.2.2.2.2.2.2.2.2, zVl (a0 22) k17 28 s_1.2.2.2.2.2.2.2.2.2.2.2.2.2.2.2.2.1, zVl (a0 23) k18 28 s_1.2.2.2.2.2.2.2.2.2.2.2.2.2.2.2.2.2.1, zVi (a0 37) k19 14 f19, zVi (a0 2) k20 5 f20] → va_S A s.heap H locs → lv_has ls 2 [(0, .ref h0)] → W p l e (headSpec wsX12_task ({ frames := 8, cells := 0, slots := 0, locals := 180 })).room s m ([.ref h0] : List Value).toArray below meth c H locs 0 0 Q (F0 m 116 ls []) := by
          intro s_11 H locs ls hfn hP hD hS hl
          have hfn := zj_s ej_11 hfn
          refine lv_aload_n hx hb dX12_task_116 rfl (lv_at hl 0 rfl) ?_
          refine lv_iconst (v := 0) hx hb dX12_task_117 zci_0 ?_
          refine va_put (D := (dC, dI)) (ci := 12) (v := .int 0) (ty := .int) (C := RX12) (T := TX12) (N := 67) hx hb hts zn_X12_task_X12 tyX12 tyX12_ok nmX12 hown hK hP hD hS 0 rfl rfl 11 (of_decide_eq_true rfl) (hts (.fieldLink RX12 44 "ShortEnoughModel" "in" "I") zw_X12_task_1016) (fun _ h9 => h9) rfl (tyX12_ok 11 (of_decide_eq_true rfl)) rfl rfl (Nat.le_of_ble_eq_true rfl) dX12_task_118 (fun H locs hP hD hS => ?_)
          have hP : va_P (dC, dI) vwCl [(h0, .inr (12, zO a0 (zI (zI (zI (zI (zI (zI (zI b0 1 0) 5 (b0 1)) 6 s_6) 7 s_1.2.2.2.1) 8 s_11.1) 9 s_11.2) 11 0) (zJ c0 28 s_1.2.1))), zVi (a0 12) k1 2 s_1.2.2.2.2.2.2.1, zVi (a0 17) k2 2 s_1.2.2.2.2.2.2.2.2.2.2.2.1, zVi (a0 24) k3 2 s_1.2.2.2.2.2.2.2.2.2.2.2.2.2.2.2.2.2.2.1, zVi (a0 0) k4 1200 f4, zVi (a0 10) k5 71 f5, zVi (a0 13) k6 8 s_1.2.2.2.2.2.2.2.1, zVi (a0 18) k7 28 s_1.2.2.2.2.2.2.2.2.2.2.2.2.1, zVi (a0 14) k8 8 s_1.2.2.2.2.2.2.2.2.1, zVi (a0 15) k9 8 s_1.2.2.2.2.2.2.2.2.2.1, zVi (a0 16) k10 8 s_1.2.2.2.2.2.2.2.2.2.2.1, zVi (a0 26) k11 28 s_1.2.2.2.2.2.2.2.2.2.2.2.2.2.2.2.2.2.2.2.2.1, zVi (a0 19) k12 28 s_1.2.2.2.2.2.2.2.2.2.2.2.2.2.1, zVi (a0 20) k13 28 s_1.2.2.2.2.2.2.2.2.2.2.2.2.2.2.1, zVi (a0 21) k14 28 s_1.2.2.2.2.2.2.2.2.2.2.2.2.2.2.2.1, zVi (a0 25) k15 28 s_1.2.2.2.2.2.2.2.2.2.2.2.2.2.2.2.2.2.2.2.1, zVi (a0 27) k16 28 s_1.2.2.2.2.2.2.2.2.2.2.2.2.2.2.2.2.2.2.2.2.2, zVl (a0 22) k17 28 s_1.2.2.2.2.2.2.2.2.2.2.2.2.2.2.2.2.1, zVl (a0 23) k18 28 s_1.2.2.2.2.2.2.2.2.2.2.2.2.2.2.2.2.2.1, zVi (a0 37) k19 14 f19, zVi (a0 2) k20 5 f20] H := hP
          have hD := zDW hD hP rfl
          refine lv_aload_n hx hb dX12_task_121 rfl (lv_at hl 0 rfl) ?_
          refine lv_aload_n hx hb dX12_task_122 rfl (lv_at hl 0 rfl) ?_
          refine va_get (D := (dC, dI)) (ci := 12) (v := .int s_11.1) (C := RX12) (T := TX12) (N := 67) hx hb hts zn_X12_task_X12 hown hK hP 0 rfl rfl 8 (of_decide_eq_true rfl) (hts (.fieldLink RX12 35 "ShortEnoughModel" "wrong" "I") zw_X12_task_1014) (fun _ h9 => h9) rfl dX12_task_123 ?_
          refine va_put (D := (dC, dI)) (ci := 12) (v := .int s_11.1) (ty := .int) (C := RX12) (T := TX12) (N := 67) hx hb hts zn_X12_task_X12 tyX12 tyX12_ok nmX12 hown hK hP hD hS 0 rfl rfl 3 (of_decide_eq_true rfl) (hts (.fieldLink RX12 20 "ShortEnoughModel" "faultKind" "I") zw_X12_task_1020) (fun _ h9 => h9) rfl (tyX12_ok 3 (of_decide_eq_true rfl)) rfl rfl (Nat.le_of_ble_eq_true rfl) dX12_task_126 (fun H locs hP hD hS => ?_)
          have hP : va_P (dC, dI) vwCl [(h0, .inr (12, zO a0 (zI (zI (zI (zI (zI (zI (zI (zI b0 1 0) 3 s_11.1) 5 (b0 1)) 6 s_6) 7 s_1.2.2.2.1) 8 s_11.1) 9 s_11.2) 11 0) (zJ c0 28 s_1.2.1))), zVi (a0 12) k1 2 s_1.2.2.2.2.2.2.1, zVi (a0 17) k2 2 s_1.2.2.2.2.2.2.2.2.2.2.2.1, zVi (a0 24) k3 2 s_1.2.2.2.2.2.2.2.2.2.2.2.2.2.2.2.2.2.2.1, zVi (a0 0) k4 1200 f4, zVi (a0 10) k5 71 f5, zVi (a0 13) k6 8 s_1.2.2.2.2.2.2.2.1, zVi (a0 18) k7 28 s_1.2.2.2.2.2.2.2.2.2.2.2.2.1, zVi (a0 14) k8 8 s_1.2.2.2.2.2.2.2.2.1, zVi (a0 15) k9 8 s_1.2.2.2.2.2.2.2.2.2.1, zVi (a0 16) k10 8 s_1.2.2.2.2.2.2.2.2.2.2.1, zVi (a0 26) k11 28 s_1.2.2.2.2.2.2.2.2.2.2.2.2.2.2.2.2.2.2.2.2.1, zVi (a0 19) k12 28 s_1.2.2.2.2.2.2.2.2.2.2.2.2.2.1, zVi (a0 20) k13 28 s_1.2.2.2.2.2.2.2.2.2.2.2.2.2.2.1, zVi (a0 21) k14 28 s_1.2.2.2.2.2.2.2.2.2.2.2.2.2.2.2.1, zVi (a0 25) k15 28 s_1.2.2.2.2.2.2.2.2.2.2.2.2.2.2.2.2.2.2.2.1, zVi (a0 27) k16 28 s_1.2.2.2.2.2.2.2.2.2.2.2.2.2.2.2.2.2.2.2.2.2, zVl (a0 22) k17 28 s_1.2.2.2.2.2.2.2.2.2.2.2.2.2.2.2.2.1, zVl (a0 23) k18 28 s_1.2.2.2.2.2.2.2.2.2.2.2.2.2.2.2.2.2.1, zVi (a0 37) k19 14 f19, zVi (a0 2) k20 5 f20] H := hP
          have hD := zDW hD hP rfl
          refine lv_aload_n hx hb dX12_task_129 rfl (lv_at hl 0 rfl) ?_
          refine lv_aload_n hx hb dX12_task_130 rfl (lv_at hl 0 rfl) ?_
          refine va_get (D := (dC, dI)) (ci := 12) (v := .int s_11.2) (C := RX12) (T := TX12) (N := 67) hx hb hts zn_X12_task_X12 hown hK hP 0 rfl rfl 9 (of_decide_eq_true rfl) (hts (.fieldLink RX12 38 "ShortEnoughModel" "wrongAt" "I") zw_X12_task_1015) (fun _ h9 => h9) rfl dX12_task_131 ?_
          refine va_put (D := (dC, dI)) (ci := 12) (v := .int s_11.2) (ty := .int) (C := RX12) (T := TX12) (N := 67) hx hb hts zn_X12_task_X12 tyX12 tyX12_ok nmX12 hown hK hP hD hS 0 rfl rfl 4 (of_decide_eq_true rfl) (hts (.fieldLink RX12 23 "ShortEnoughModel" "faultPlace" "I") zw_X12_task_1021) (fun _ h9 => h9) rfl (tyX12_ok 4 (of_decide_eq_true rfl)) rfl rfl (Nat.le_of_ble_eq_true rfl) dX12_task_134 (fun H locs hP hD hS => ?_)
          have hP : va_P (dC, dI) vwCl [(h0, .inr (12, zO a0 (zI (zI (zI (zI (zI (zI (zI (zI (zI b0 1 0) 3 s_11.1) 4 s_11.2) 5 (b0 1)) 6 s_6) 7 s_1.2.2.2.1) 8 s_11.1) 9 s_11.2) 11 0) (zJ c0 28 s_1.2.1))), zVi (a0 12) k1 2 s_1.2.2.2.2.2.2.1, zVi (a0 17) k2 2 s_1.2.2.2.2.2.2.2.2.2.2.2.1, zVi (a0 24) k3 2 s_1.2.2.2.2.2.2.2.2.2.2.2.2.2.2.2.2.2.2.1, zVi (a0 0) k4 1200 f4, zVi (a0 10) k5 71 f5, zVi (a0 13) k6 8 s_1.2.2.2.2.2.2.2.1, zVi (a0 18) k7 28 s_1.2.2.2.2.2.2.2.2.2.2.2.2.1, zVi (a0 14) k8 8 s_1.2.2.2.2.2.2.2.2.1, zVi (a0 15) k9 8 s_1.2.2.2.2.2.2.2.2.2.1, zVi (a0 16) k10 8 s_1.2.2.2.2.2.2.2.2.2.2.1, zVi (a0 26) k11 28 s_1.2.2.2.2.2.2.2.2.2.2.2.2.2.2.2.2.2.2.2.2.1, zVi (a0 19) k12 28 s_1.2.2.2.2.2.2.2.2.2.2.2.2.2.1, zVi (a0 20) k13 28 s_1.2.2.2.2.2.2.2.2.2.2.2.2.2.2.1, zVi (a0 21) k14 28 s_1.2.2.2.2.2.2.2.2.2.2.2.2.2.2.2.1, zVi (a0 25) k15 28 s_1.2.2.2.2.2.2.2.2.2.2.2.2.2.2.2.2.2.2.2.1, zVi (a0 27) k16 28 s_1.2.2.2.2.2.2.2.2.2.2.2.2.2.2.2.2.2.2.2.2.2, zVl (a0 22) k17 28 s_1.2.2.2.2.2.2.2.2.2.2.2.2.2.2.2.2.1, zVl (a0 23) k18 28 s_1.2.2.2.2.2.2.2.2.2.2.2.2.2.2.2.2.2.1, zVi (a0 37) k19 14 f19, zVi (a0 2) k20 5 f20] H := hP
          have hD := zDW hD hP rfl
          refine lv_aload_n hx hb dX12_task_137 rfl (lv_at hl 0 rfl) ?_
          refine va_get (D := (dC, dI)) (ci := 12) (v := .int s_11.1) (C := RX12) (T := TX12) (N := 67) hx hb hts zn_X12_task_X12 hown hK hP 0 rfl rfl 8 (of_decide_eq_true rfl) (hts (.fieldLink RX12 35 "ShortEnoughModel" "wrong" "I") zw_X12_task_1014) (fun _ h9 => h9) rfl dX12_task_138 ?_
          refine lv_if_eq (tgt := 150) hx hb dX12_task_141 (of_decide_eq_true rfl) (fun c_12 => ?_) (fun c_12 => ?_)
          · have hfn := (if_pos c_12).symm.trans hfn
            refine lv_aload_n hx hb dX12_task_150 rfl (lv_at hl 0 rfl) ?_
            obtain ⟨o_13, hqo_13, hfn⟩ := zb_s hfn
            refine zcVv (ci := 12) (rest := []) (pc' := 154) (ws' := [(h0, .inr (12, zO a0 (zI (zI (zI (zI (zI (zI (zI (zI (zI b0 1 0) 3 s_11.1) 4 s_11.2) 5 (b0 1)) 6 s_6) 7 s_1.2.2.2.1) 8 s_11.1) 9 s_11.2) 11 0) (zJ c0 28 s_1.2.1))), zVi (a0 12) k1 2 o_13.1, zVi (a0 17) k2 2 o_13.2.1, zVi (a0 24) k3 2 o_13.2.2.1, zVi (a0 0) k4 1200 f4, zVi (a0 10) k5 71 f5, zVi (a0 13) k6 8 o_13.2.2.2.1, zVi (a0 18) k7 28 o_13.2.2.2.2.2.2.2.1, zVi (a0 14) k8 8 o_13.2.2.2.2.1, zVi (a0 15) k9 8 o_13.2.2.2.2.2.1, zVi (a0 16) k10 8 o_13.2.2.2.2.2.2.1, zVi (a0 26) k11 28 o_13.2.2.2.2.2.2.2.2.2.2.2.2.2.2.1, zVi (a0 19) k12 28 o_13.2.2.2.2.2.2.2.2.1, zVi (a0 20) k13 28 o_13.2.2.2.2.2.2.2.2.2.1, zVi (a0 21) k14 28 o_13.2.2.2.2.2.2.2.2.2.2.1, zVi (a0 25) k15 28 o_13.2.2.2.2.2.2.2.2.2.2.2.2.2.1, zVi (a0 27) k16 28 o_13.2.2.2.2.2.2.2.2.2.2.2.2.2.2.2, zVl (a0 22) k17 28 o_13.2.2.2.2.2.2.2.2.2.2.2.1, zVl (a0 23) k18 28 o_13.2.2.2.2.2.2.2.2.2.2.2.2.1, zVi (a0 37) k19 14 f19, zVi (a0 2) k20 5 f20]) hP hK hD hS hA ⟨hx, hb, hml, hown, hts⟩ (zf_X12_copiesTask l dC dI h0 a0 (zI (zI (zI (zI (zI (zI (zI (zI (zI b0 1 0) 3 s_11.1) 4 s_11.2) 5 (b0 1)) 6 s_6) 7 s_1.2.2.2.1) 8 s_11.1) 9 s_11.2) 11 0) (zJ c0 28 s_1.2.1) k1 s_1.2.2.2.2.2.2.1 k2 s_1.2.2.2.2.2.2.2.2.2.2.2.1 k3 s_1.2.2.2.2.2.2.2.2.2.2.2.2.2.2.2.2.2.2.1 k6 s_1.2.2.2.2.2.2.2.1 k8 s_1.2.2.2.2.2.2.2.2.1 k9 s_1.2.2.2.2.2.2.2.2.2.1 k10 s_1.2.2.2.2.2.2.2.2.2.2.1 k7 s_1.2.2.2.2.2.2.2.2.2.2.2.2.1 k12 s_1.2.2.2.2.2.2.2.2.2.2.2.2.2.1 k13 s_1.2.2.2.2.2.2.2.2.2.2.2.2.2.2.1 k14 s_1.2.2.2.2.2.2.2.2.2.2.2.2.2.2.2.1 k17 s_1.2.2.2.2.2.2.2.2.2.2.2.2.2.2.2.2.1 k18 s_1.2.2.2.2.2.2.2.2.2.2.2.2.2.2.2.2.2.1 k15 s_1.2.2.2.2.2.2.2.2.2.2.2.2.2.2.2.2.2.2.2.1 k11 s_1.2.2.2.2.2.2.2.2.2.2.2.2.2.2.2.2.2.2.2.2.1 k16 s_1.2.2.2.2.2.2.2.2.2.2.2.2.2.2.2.2.2.2.2.2.2 o_13 hqo_13 H.size) (cwV 0 hts gX12_task_X12_copiesTask rfl rfl rfl zhd_X12_copiesTask ⟨Nat.le_of_ble_eq_true rfl, Nat.le_of_ble_eq_true rfl⟩) [0, 1, 2, 3, 6, 8, 9, 10, 7, 12, 13, 14, 17, 18, 15, 11, 16] rfl (of_decide_eq_true rfl) [0, 1, 2, 5, 7, 8, 9, 6, 11, 12, 13, 16, 17, 14, 10, 15] rfl rfl rfl rfl hl.1 rfl (Nat.le_of_ble_eq_true rfl) dX12_task_151 ⟨Nat.le_of_ble_eq_true rfl, Nat.le_of_ble_eq_true rfl⟩ [some 0, some 1, some 2, some 3, none, none, some 4, some 8, some 5, some 6, some 7, some 15, some 9, some 10, some 11, some 14, some 16, some 12, some 13] (of_decide_eq_true rfl) (of_decide_eq_true rfl) rfl rfl rfl (fun H locs hP hD hS => ?_)
            refine lv_aload_n hx hb dX12_task_154 rfl (lv_at hl 0 rfl) ?_
            obtain ⟨o_17, hqo_17, hfn⟩ := zb_s hfn
            refine zcVv (ci := 12) (rest := []) (pc' := 158) (ws' := [(h0, .inr (12, zO a0 (zI (zI (zI (zI (zI (zI (zI (zI (zI (zI b0 1 0) 3 s_11.1) 4 s_11.2) 5 (b0 1)) 6 s_6) 7 s_1.2.2.2.1) 8 s_11.1) 9 s_11.2) 11 0) 38 o_17.1) (zJ c0 28 s_1.2.1))), zVi (a0 12) k1 2 o_13.1, zVi (a0 17) k2 2 o_13.2.1, zVi (a0 24) k3 2 o_13.2.2.1, zVi (a0 0) k4 1200 f4, zVi (a0 10) k5 71 f5, zVi (a0 13) k6 8 o_13.2.2.2.1, zVi (a0 18) k7 28 o_13.2.2.2.2.2.2.2.1, zVi (a0 14) k8 8 o_13.2.2.2.2.1, zVi (a0 15) k9 8 o_13.2.2.2.2.2.1, zVi (a0 16) k10 8 o_13.2.2.2.2.2.2.1, zVi (a0 26) k11 28 o_13.2.2.2.2.2.2.2.2.2.2.2.2.2.2.1, zVi (a0 19) k12 28 o_13.2.2.2.2.2.2.2.2.1, zVi (a0 20) k13 28 o_13.2.2.2.2.2.2.2.2.2.1, zVi (a0 21) k14 28 o_13.2.2.2.2.2.2.2.2.2.2.1, zVi (a0 25) k15 28 o_13.2.2.2.2.2.2.2.2.2.2.2.2.2.1, zVi (a0 27) k16 28 o_13.2.2.2.2.2.2.2.2.2.2.2.2.2.2.2, zVl (a0 22) k17 28 o_13.2.2.2.2.2.2.2.2.2.2.2.1, zVl (a0 23) k18 28 o_13.2.2.2.2.2.2.2.2.2.2.2.2.1, zVi (a0 37) k19 14 o_17.2, zVi (a0 2) k20 5 f20]) hP hK hD hS hA ⟨hx, hb, hml, hown, hts⟩ (zf_X12_beginsChoice l dC dI h0 a0 (zI (zI (zI (zI (zI (zI (zI (zI (zI b0 1 0) 3 s_11.1) 4 s_11.2) 5 (b0 1)) 6 s_6) 7 s_1.2.2.2.1) 8 s_11.1) 9 s_11.2) 11 0) (zJ c0 28 s_1.2.1) k2 o_13.2.1 k19 f19 k15 o_13.2.2.2.2.2.2.2.2.2.2.2.2.2.1 k16 o_13.2.2.2.2.2.2.2.2.2.2.2.2.2.2.2 o_17 hqo_17 H.size) (cwV 0 hts gX12_task_X12_beginsChoice rfl rfl rfl zhd_X12_beginsChoice ⟨Nat.le_of_ble_eq_true rfl, Nat.le_of_ble_eq_true rfl⟩) [0, 2, 19, 15, 16] rfl (of_decide_eq_true rfl) [1, 18, 14, 15] rfl rfl rfl rfl hl.1 rfl (Nat.le_of_ble_eq_true rfl) dX12_task_155 ⟨Nat.le_of_ble_eq_true rfl, Nat.le_of_ble_eq_true rfl⟩ [some 0, none, some 1, none, none, none, none, none, none, none, none, none, none, none, none, some 3, some 4, none, none, some 2] (of_decide_eq_true rfl) (of_decide_eq_true rfl) rfl rfl rfl (fun H locs hP hD hS => ?_)
            refine lv_aload_n hx hb dX12_task_158 rfl (lv_at hl 0 rfl) ?_
            refine lv_iconst (v := (-1)) hx hb dX12_task_159 zci_m1 ?_
            refine va_put (D := (dC, dI)) (ci := 12) (v := .int (-1)) (ty := .int) (C := RX12) (T := TX12) (N := 67) hx hb hts zn_X12_task_X12 tyX12 tyX12_ok nmX12 hown hK hP hD hS 0 rfl rfl 58 (of_decide_eq_true rfl) (hts (.fieldLink RX12 189 "ShortEnoughModel" "brokenAt" "I") zw_X12_task_1028) (fun _ h9 => h9) rfl (tyX12_ok 58 (of_decide_eq_true rfl)) rfl rfl (Nat.le_of_ble_eq_true rfl) dX12_task_160 (fun H locs hP hD hS => ?_)
            have hP : va_P (dC, dI) vwCl [(h0, .inr (12, zO a0 (zI (zI (zI (zI (zI (zI (zI (zI (zI (zI (zI b0 1 0) 3 s_11.1) 4 s_11.2) 5 (b0 1)) 6 s_6) 7 s_1.2.2.2.1) 8 s_11.1) 9 s_11.2) 11 0) 38 o_17.1) 58 (-1)) (zJ c0 28 s_1.2.1))), zVi (a0 12) k1 2 o_13.1, zVi (a0 17) k2 2 o_13.2.1, zVi (a0 24) k3 2 o_13.2.2.1, zVi (a0 0) k4 1200 f4, zVi (a0 10) k5 71 f5, zVi (a0 13) k6 8 o_13.2.2.2.1, zVi (a0 18) k7 28 o_13.2.2.2.2.2.2.2.1, zVi (a0 14) k8 8 o_13.2.2.2.2.1, zVi (a0 15) k9 8 o_13.2.2.2.2.2.1, zVi (a0 16) k10 8 o_13.2.2.2.2.2.2.1, zVi (a0 26) k11 28 o_13.2.2.2.2.2.2.2.2.2.2.2.2.2.2.1, zVi (a0 19) k12 28 o_13.2.2.2.2.2.2.2.2.1, zVi (a0 20) k13 28 o_13.2.2.2.2.2.2.2.2.2.1, zVi (a0 21) k14 28 o_13.2.2.2.2.2.2.2.2.2.2.1, zVi (a0 25) k15 28 o_13.2.2.2.2.2.2.2.2.2.2.2.2.2.1, zVi (a0 27) k16 28 o_13.2.2.2.2.2.2.2.2.2.2.2.2.2.2.2, zVl (a0 22) k17 28 o_13.2.2.2.2.2.2.2.2.2.2.2.1, zVl (a0 23) k18 28 o_13.2.2.2.2.2.2.2.2.2.2.2.2.1, zVi (a0 37) k19 14 o_17.2, zVi (a0 2) k20 5 f20] H := hP
            have hD := zDW hD hP rfl
            refine lv_aload_n hx hb dX12_task_163 rfl (lv_at hl 0 rfl) ?_
            refine lv_iconst (v := (-1)) hx hb dX12_task_164 zci_m1 ?_
            refine va_put (D := (dC, dI)) (ci := 12) (v := .int (-1)) (ty := .int) (C := RX12) (T := TX12) (N := 67) hx hb hts zn_X12_task_X12 tyX12 tyX12_ok nmX12 hown hK hP hD hS 0 rfl rfl 59 (of_decide_eq_true rfl) (hts (.fieldLink RX12 192 "ShortEnoughModel" "brokenWhy" "I") zw_X12_task_1029) (fun _ h9 => h9) rfl (tyX12_ok 59 (of_decide_eq_true rfl)) rfl rfl (Nat.le_of_ble_eq_true rfl) dX12_task_165 (fun H locs hP hD hS => ?_)
            have hP : va_P (dC, dI) vwCl [(h0, .inr (12, zO a0 (zI (zI (zI (zI (zI (zI (zI (zI (zI (zI (zI (zI b0 1 0) 3 s_11.1) 4 s_11.2) 5 (b0 1)) 6 s_6) 7 s_1.2.2.2.1) 8 s_11.1) 9 s_11.2) 11 0) 38 o_17.1) 58 (-1)) 59 (-1)) (zJ c0 28 s_1.2.1))), zVi (a0 12) k1 2 o_13.1, zVi (a0 17) k2 2 o_13.2.1, zVi (a0 24) k3 2 o_13.2.2.1, zVi (a0 0) k4 1200 f4, zVi (a0 10) k5 71 f5, zVi (a0 13) k6 8 o_13.2.2.2.1, zVi (a0 18) k7 28 o_13.2.2.2.2.2.2.2.1, zVi (a0 14) k8 8 o_13.2.2.2.2.1, zVi (a0 15) k9 8 o_13.2.2.2.2.2.1, zVi (a0 16) k10 8 o_13.2.2.2.2.2.2.1, zVi (a0 26) k11 28 o_13.2.2.2.2.2.2.2.2.2.2.2.2.2.2.1, zVi (a0 19) k12 28 o_13.2.2.2.2.2.2.2.2.1, zVi (a0 20) k13 28 o_13.2.2.2.2.2.2.2.2.2.1, zVi (a0 21) k14 28 o_13.2.2.2.2.2.2.2.2.2.2.1, zVi (a0 25) k15 28 o_13.2.2.2.2.2.2.2.2.2.2.2.2.2.1, zVi (a0 27) k16 28 o_13.2.2.2.2.2.2.2.2.2.2.2.2.2.2.2, zVl (a0 22) k17 28 o_13.2.2.2.2.2.2.2.2.2.2.2.1, zVl (a0 23) k18 28 o_13.2.2.2.2.2.2.2.2.2.2.2.2.1, zVi (a0 37) k19 14 o_17.2, zVi (a0 2) k20 5 f20] H := hP
            have hD := zDW hD hP rfl
            refine lv_aload_n hx hb dX12_task_168 rfl (lv_at hl 0 rfl) ?_
            refine va_get (D := (dC, dI)) (ci := 12) (v := .ref (a0 17)) (C := RX12) (T := TX12) (N := 67) hx hb hts zn_X12_task_X12 hown hK hP 0 rfl rfl 17 (of_decide_eq_true rfl) (hts (.fieldLink RX12 62 "ShortEnoughModel" "numbers" "[I") zw_X12_task_1018) (fun _ h9 => h9) rfl dX12_task_169 ?_
            refine lv_iconst (v := 0) hx hb dX12_task_172 zci_0 ?_
            refine va_iald hx hb hK hP 2 1 rfl rfl (zv_in (by decide +kernel)) dX12_task_173 ?_
            have ho := Option.some.inj hfn
            subst ho
            exact zri hx hb hr hK hP hD hS hQ rfl hlocks dX12_task_174
          have hfn := (if_neg c_12).symm.trans hfn
          refine lv_aload_n hx hb dX12_task_144 rfl (lv_at hl 0 rfl) ?_
          refine lv_iconst (v := 1) hx hb dX12_task_145 zci_1 ?_
          obtain ⟨o_21, hqo_21, hfn⟩ := zb_s hfn
          refine zcVi (ci := 12) (rest := []) (pc' := 149) (ws' := [(h0, .inr (12, zO a0 (zI (zI (zI (zI (zI (zI (zI (zI (zI b0 1 0) 3 s_11.1) 4 s_11.2) 5 (b0 1)) 6 s_6) 7 s_1.2.2.2.1) 8 s_11.1) 9 s_11.2) 11 0) (zJ c0 28 s_1.2.1))), zVi (a0 12) k1 2 s_1.2.2.2.2.2.2.1, zVi (a0 17) k2 2 s_1.2.2.2.2.2.2.2.2.2.2.2.1, zVi (a0 24) k3 2 s_1.2.2.2.2.2.2.2.2.2.2.2.2.2.2.2.2.2.2.1, zVi (a0 0) k4 1200 f4, zVi (a0 10) k5 71 f5, zVi (a0 13) k6 8 s_1.2.2.2.2.2.2.2.1, zVi (a0 18) k7 28 s_1.2.2.2.2.2.2.2.2.2.2.2.2.1, zVi (a0 14) k8 8 s_1.2.2.2.2.2.2.2.2.1, zVi (a0 15) k9 8 s_1.2.2.2.2.2.2.2.2.2.1, zVi (a0 16) k10 8 s_1.2.2.2.2.2.2.2.2.2.2.1, zVi (a0 26) k11 28 s_1.2.2.2.2.2.2.2.2.2.2.2.2.2.2.2.2.2.2.2.2.1, zVi (a0 19) k12 28 s_1.2.2.2.2.2.2.2.2.2.2.2.2.2.1, zVi (a0 20) k13 28 s_1.2.2.2.2.2.2.2.2.2.2.2.2.2.2.1, zVi (a0 21) k14 28 s_1.2.2.2.2.2.2.2.2.2.2.2.2.2.2.2.1, zVi (a0 25) k15 28 s_1.2.2.2.2.2.2.2.2.2.2.2.2.2.2.2.2.2.2.2.1, zVi (a0 27) k16 28 s_1.2.2.2.2.2.2.2.2.2.2.2.2.2.2.2.2.2.2.2.2.2, zVl (a0 22) k17 28 s_1.2.2.2.2.2.2.2.2.2.2.2.2.2.2.2.2.1, zVl (a0 23) k18 28 s_1.2.2.2.2.2.2.2.2.2.2.2.2.2.2.2.2.2.1, zVi (a0 37) k19 14 f19, zVi (a0 2) k20 5 o_21.2]) hP hK hD hS hA ⟨hx, hb, hml, hown, hts⟩ (zf_X12_refuses l dC dI h0 1 a0 (zI (zI (zI (zI (zI (zI (zI (zI (zI b0 1 0) 3 s_11.1) 4 s_11.2) 5 (b0 1)) 6 s_6) 7 s_1.2.2.2.1) 8 s_11.1) 9 s_11.2) 11 0) (zJ c0 28 s_1.2.1) k20 f20 o_21 hqo_21 H.size) (cwV 1 hts gX12_task_X12_refuses rfl rfl rfl zhd_X12_refuses ⟨Nat.le_of_ble_eq_true rfl, Nat.le_of_ble_eq_true rfl⟩) [0, 20] rfl (of_decide_eq_true rfl) [19] rfl rfl rfl rfl hl.1 rfl (Nat.le_of_ble_eq_true rfl) dX12_task_146 ⟨Nat.le_of_ble_eq_true rfl, Nat.le_of_ble_eq_true rfl⟩ [some 0, none, none, none, none, none, none, none, none, none, none, none, none, none, none, none, none, none, none, none, some 1] (of_decide_eq_true rfl) (of_decide_eq_true rfl) rfl rfl rfl (fun H locs hP hD hS => ?_)
          have ho := Option.some.inj hfn
          subst ho
          exact zri hx hb hr hK hP hD hS hQ rfl hlocks dX12_task_149
        refine lv_if_eq (tgt := 116) hx hb dX12_task_86 (of_decide_eq_true rfl) (fun c_25 => ?_) (fun c_25 => ?_)
        · have hfn := (if_pos c_25).symm.trans hfn
          exact jp_11 (s_1.2.2.2.2.1, s_1.2.2.2.2.2.1) H locs ls hfn hP hD hS (lv_sub hl [0] rfl)
        have hfn := (if_neg c_25).symm.trans hfn
        refine lv_aload_n hx hb dX12_task_89 rfl (lv_at hl 0 rfl) ?_
        refine va_get (D := (dC, dI)) (ci := 12) (v := .ref (a0 12)) (C := RX12) (T := TX12) (N := 67) hx hb hts zn_X12_task_X12 hown hK hP 0 rfl rfl 12 (of_decide_eq_true rfl) (hts (.fieldLink RX12 47 "ShortEnoughModel" "formats" "[I") zw_X12_task_1017) (fun _ h9 => h9) rfl dX12_task_90 ?_
        refine lv_iconst (v := 1) hx hb dX12_task_93 zci_1 ?_
        refine va_iald hx hb hK hP 1 0 rfl rfl (zv_in (by decide +kernel)) dX12_task_94 ?_
        obtain ⟨j_26, ej_26, hfn⟩ := zj_g hfn
        have jp_26 : ∀ (s_26 : Unit) (H : Heap) (locs : List Loc) (ls : Array Slot), j_26 s_26 = some o → va_P (dC, dI) vwCl [(h0, .inr (12, zO a0 (zI (zI (zI (zI (zI (zI (zI b0 1 0) 5 (b0 1)) 6 s_6) 7 s_1.2.2.2.1) 8 s_1.2.2.2.2.1) 9 s_1.2.2.2.2.2.1) 11 1) (zJ c0 28 s_1.2.1))), zVi (a0 12) k1 2 s_1.2.2.2.2.2.2.1, zVi (a0 17) k2 2 s_1.2.2.2.2.2.2.2.2.2.2.2.1, zVi (a0 24) k3 2 s_1.2.2.2.2.2.2.2.2.2.2.2.2.2.2.2.2.2.2.1, zVi (a0 0) k4 1200 f4, zVi (a0 10) k5 71 f5, zVi (a0 13) k6 8 s_1.2.2.2.2.2.2.2.1, zVi (a0 18) k7 28 s_1.2.2.2.2.2.2.2.2.2.2.2.2.1, zVi (a0 14) k8 8 s_1.2.2.2.2.2.2.2.2.1, zVi (a0 15) k9 8 s_1.2.2.2.2.2.2.2.2.2.1, zVi (a0 16) k10 8 s_1.2.2.2.2.2.2.2.2.2.2.1, zVi (a0 26) k11 28 s_1.2.2.2.2.2.2.2.2.2.2.2.2.2.2.2.2.2.2.2.2.1, zVi (a0 19) k12 28 s_1.2.2.2.2.2.2.2.2.2.2.2.2.2.1, zVi (a0 20) k13 28 s_1.2.2.2.2.2.2.2.2.2.2.2.2.2.2.1, zVi (a0 21) k14 28 s_1.2.2.2.2.2.2.2.2.2.2.2.2.2.2.2.1, zVi (a0 25) k15 28 s_1.2.2.2.2.2.2.2.2.2.2.2.2.2.2.2.2.2.2.2.1, zVi (a0 27) k16 28 s_1.2.2.2.2.2.2.2.2.2.2.2.2.2.2.2.2.2.2.2.2.2, zVl (a0 22) k17 28 s_1.2.2.2.2.2.2.2.2.2.2.2.2.2.2.2.2.1, zVl (a0 23) k18 28 s_1.2.2.2.2.2.2.2.2.2.2.2.2.2.2.2.2.2.1, zVi (a0 37) k19 14 f19, zVi (a0 2) k20 5 f20] H → va_D A [(h0, .inr (12, zO a0 (zI (zI (zI (zI (zI (zI (zI b0 1 0) 5 (b0 1)) 6 s_6) 7 s_1.2.2.2.1) 8 s_1.2.2.2.2.1) 9 s_1.2.2.2.2.2.1) 11 1) (zJ c0 28 s_1.2.1))), zVi (a0 12) k1 2 s_1.2.2.2.2.2.2.1, zVi (a0 17) k2 2 s_1.2.2.2.2.2.2.2.2.2.2.2.1, zVi (a0 24) k3 2 s_1.2.2.2.2.2.2.2.2.2.2.2.2.2.2.2.2.2.2.1, zVi (a0 0) k4 1200 f4, zVi (a0 10) k5 71 f5, zVi (a0 13) k6 8 s_1.2.2.2.2.2.2.2.1, zVi (a0 18) k7 28 s_1.2.2.2.2.2.2.2.2.2.2.2.2.1, zVi (a0 14) k8 8 s_1.2.2.2.2.2.2.2.2.1, zVi (a0 15) k9 8 s_1.2.2.2.2.2.2.2.2.2.1, zVi (a0 16) k10 8 s_1.2.2.2.2.2.2.2.2.2.2.1, zVi (a0 26) k11 28 s_1.2.2.2.2.2.2.2.2.2.2.2.2.2.2.2.2.2.2.2.2.1, zVi (a0 19) k12 28 s_1.2.2.2.2.2.2.2.2.2.2.2.2.2.1, zVi (a0 20) k13 28 s_1.2.2.2.2.2.2.2.2.2.2.2.2.2.2.1, zVi (a0 21) k14 28 s_1.2.2.2.2.2.2.2.2.2.2.2.2.2.2.2.1, zVi (a0 25) k15 28 s_1.2.2.2.2.2.2.2.2.2.2.2.2.2.2.2.2.2.2.2.1, zVi (a0 27) k16 28 s_1.2.2.2.2.2.2.2.2.2.2.2.2.2.2.2.2.2.2.2.2.2, zVl (a0 22) k17 28 s_1.2.2.2.2.2.2.2.2.2.2.2.2.2.2.2.2.1, zVl (a0 23) k18 28 s_1.2.2.2.2.2.2.2.2.2.2.2.2.2.2.2.2.2.1, zVi (a0 37) k19 14 f19, zVi (a0 2) k20 5 f20] → va_S A s.heap H locs → lv_has ls 2 [(0, .ref h0)] → W p l e (headSpec wsX12_task ({ frames := 8, cells := 0, slots := 0, locals := 180 })).room s m ([.ref h0] : List Value).toArray below meth c H locs 0 0 Q (F0 m 107 ls []) := by
          intro s_26 H locs ls hfn hP hD hS hl
          have hfn := zj_s ej_26 hfn
          refine lv_aload_n hx hb dX12_task_107 rfl (lv_at hl 0 rfl) ?_
          refine lv_iconst (v := 4) hx hb dX12_task_108 zci_4 ?_
          refine lv_aload_n hx hb dX12_task_109 rfl (lv_at hl 0 rfl) ?_
          refine va_get (D := (dC, dI)) (ci := 12) (v := .int (b0 1)) (C := RX12) (T := TX12) (N := 67) hx hb hts zn_X12_task_X12 hown hK hP 0 rfl rfl 5 (of_decide_eq_true rfl) (hts (.fieldLink RX12 26 "ShortEnoughModel" "size" "I") zw_X12_task_1012) (fun _ h9 => h9) rfl dX12_task_110 ?_
          obtain ⟨o_27, hqo_27, hfn⟩ := zb_s hfn
          refine zcVv (ci := 12) (rest := []) (pc' := 116) (ws' := [(h0, .inr (12, zO a0 (zI (zI (zI (zI (zI (zI (zI b0 1 0) 5 (b0 1)) 6 s_6) 7 s_1.2.2.2.1) 8 o_27.1) 9 o_27.2) 11 1) (zJ c0 28 s_1.2.1))), zVi (a0 12) k1 2 s_1.2.2.2.2.2.2.1, zVi (a0 17) k2 2 s_1.2.2.2.2.2.2.2.2.2.2.2.1, zVi (a0 24) k3 2 s_1.2.2.2.2.2.2.2.2.2.2.2.2.2.2.2.2.2.2.1, zVi (a0 0) k4 1200 f4, zVi (a0 10) k5 71 f5, zVi (a0 13) k6 8 s_1.2.2.2.2.2.2.2.1, zVi (a0 18) k7 28 s_1.2.2.2.2.2.2.2.2.2.2.2.2.1, zVi (a0 14) k8 8 s_1.2.2.2.2.2.2.2.2.1, zVi (a0 15) k9 8 s_1.2.2.2.2.2.2.2.2.2.1, zVi (a0 16) k10 8 s_1.2.2.2.2.2.2.2.2.2.2.1, zVi (a0 26) k11 28 s_1.2.2.2.2.2.2.2.2.2.2.2.2.2.2.2.2.2.2.2.2.1, zVi (a0 19) k12 28 s_1.2.2.2.2.2.2.2.2.2.2.2.2.2.1, zVi (a0 20) k13 28 s_1.2.2.2.2.2.2.2.2.2.2.2.2.2.2.1, zVi (a0 21) k14 28 s_1.2.2.2.2.2.2.2.2.2.2.2.2.2.2.2.1, zVi (a0 25) k15 28 s_1.2.2.2.2.2.2.2.2.2.2.2.2.2.2.2.2.2.2.2.1, zVi (a0 27) k16 28 s_1.2.2.2.2.2.2.2.2.2.2.2.2.2.2.2.2.2.2.2.2.2, zVl (a0 22) k17 28 s_1.2.2.2.2.2.2.2.2.2.2.2.2.2.2.2.2.1, zVl (a0 23) k18 28 s_1.2.2.2.2.2.2.2.2.2.2.2.2.2.2.2.2.2.1, zVi (a0 37) k19 14 f19, zVi (a0 2) k20 5 f20]) hP hK hD hS hA ⟨hx, hb, hml, hown, hts⟩ (zf_X12_faults l dC dI h0 4 (b0 1) a0 (zI (zI (zI (zI (zI (zI (zI b0 1 0) 5 (b0 1)) 6 s_6) 7 s_1.2.2.2.1) 8 s_1.2.2.2.2.1) 9 s_1.2.2.2.2.2.1) 11 1) (zJ c0 28 s_1.2.1) o_27 hqo_27 H.size) (cwV 2 hts gX12_task_X12_faults rfl rfl rfl zhd_X12_faults ⟨Nat.le_of_ble_eq_true rfl, Nat.le_of_ble_eq_true rfl⟩) [0] rfl (of_decide_eq_true rfl) [] rfl rfl rfl rfl hl.1 rfl (Nat.le_of_ble_eq_true rfl) dX12_task_113 ⟨Nat.le_of_ble_eq_true rfl, Nat.le_of_ble_eq_true rfl⟩ [some 0] (of_decide_eq_true rfl) (of_decide_eq_true rfl) rfl rfl rfl (fun H locs hP hD hS => ?_)
          exact jp_11 (o_27.1, o_27.2) H locs ls hfn hP hD hS (lv_sub hl [0] rfl)
        refine lv_if_eq (tgt := 107) hx hb dX12_task_95 (of_decide_eq_true rfl) (fun c_31 => ?_) (fun c_31 => ?_)
        · have hfn := (if_pos c_31).symm.trans hfn
          exact jp_26 () H locs ls hfn hP hD hS (lv_sub hl [0] rfl)
        have hfn := (if_neg c_31).symm.trans hfn
        refine lv_aload_n hx hb dX12_task_98 rfl (lv_at hl 0 rfl) ?_
        refine va_get (D := (dC, dI)) (ci := 12) (v := .ref (a0 17)) (C := RX12) (T := TX12) (N := 67) hx hb hts zn_X12_task_X12 hown hK hP 0 rfl rfl 17 (of_decide_eq_true rfl) (hts (.fieldLink RX12 62 "ShortEnoughModel" "numbers" "[I") zw_X12_task_1018) (fun _ h9 => h9) rfl dX12_task_99 ?_
        refine lv_iconst (v := 1) hx hb dX12_task_102 zci_1 ?_
        refine va_iald hx hb hK hP 2 1 rfl rfl (zv_in (by decide +kernel)) dX12_task_103 ?_
        refine lv_if_ne (tgt := 116) hx hb dX12_task_104 (of_decide_eq_true rfl) (fun c_32 => ?_) (fun c_32 => ?_)
        · have hfn := (if_neg c_32).symm.trans hfn
          exact jp_11 (s_1.2.2.2.2.1, s_1.2.2.2.2.2.1) H locs ls hfn hP hD hS (lv_sub hl [0] rfl)
        have hfn := (if_pos c_32).symm.trans hfn
        exact jp_26 () H locs ls hfn hP hD hS (lv_sub hl [0] rfl)
      refine lv_if_eq (tgt := 82) hx hb dX12_task_60 (of_decide_eq_true rfl) (fun c_33 => ?_) (fun c_33 => ?_)
      · have hfn := (if_pos c_33).symm.trans hfn
        exact jp_6 s_1.2.2.1 H locs ls hfn hP hD hS (lv_sub hl [1] rfl)
      have hfn := (if_neg c_33).symm.trans hfn
      refine lv_aload_n hx hb dX12_task_63 rfl (lv_at hl 1 rfl) ?_
      obtain ⟨o_34, hqo_34, hfn⟩ := zb_s hfn
      refine zcVi (ci := 12) (rest := []) (pc' := 67) (ws' := [(h0, .inr (12, zO a0 (zI (zI (zI (zI (zI (zI (zI b0 1 0) 5 (b0 1)) 6 o_34.2) 7 s_1.2.2.2.1) 8 s_1.2.2.2.2.1) 9 s_1.2.2.2.2.2.1) 11 1) (zJ c0 28 s_1.2.1))), zVi (a0 12) k1 2 s_1.2.2.2.2.2.2.1, zVi (a0 17) k2 2 s_1.2.2.2.2.2.2.2.2.2.2.2.1, zVi (a0 24) k3 2 s_1.2.2.2.2.2.2.2.2.2.2.2.2.2.2.2.2.2.2.1, zVi (a0 0) k4 1200 f4, zVi (a0 10) k5 71 f5, zVi (a0 13) k6 8 s_1.2.2.2.2.2.2.2.1, zVi (a0 18) k7 28 s_1.2.2.2.2.2.2.2.2.2.2.2.2.1, zVi (a0 14) k8 8 s_1.2.2.2.2.2.2.2.2.1, zVi (a0 15) k9 8 s_1.2.2.2.2.2.2.2.2.2.1, zVi (a0 16) k10 8 s_1.2.2.2.2.2.2.2.2.2.2.1, zVi (a0 26) k11 28 s_1.2.2.2.2.2.2.2.2.2.2.2.2.2.2.2.2.2.2.2.2.1, zVi (a0 19) k12 28 s_1.2.2.2.2.2.2.2.2.2.2.2.2.2.1, zVi (a0 20) k13 28 s_1.2.2.2.2.2.2.2.2.2.2.2.2.2.2.1, zVi (a0 21) k14 28 s_1.2.2.2.2.2.2.2.2.2.2.2.2.2.2.2.1, zVi (a0 25) k15 28 s_1.2.2.2.2.2.2.2.2.2.2.2.2.2.2.2.2.2.2.2.1, zVi (a0 27) k16 28 s_1.2.2.2.2.2.2.2.2.2.2.2.2.2.2.2.2.2.2.2.2.2, zVl (a0 22) k17 28 s_1.2.2.2.2.2.2.2.2.2.2.2.2.2.2.2.2.1, zVl (a0 23) k18 28 s_1.2.2.2.2.2.2.2.2.2.2.2.2.2.2.2.2.2.1, zVi (a0 37) k19 14 f19, zVi (a0 2) k20 5 f20]) hP hK hD hS hA ⟨hx, hb, hml, hown, hts⟩ (zf_X12_here l dC dI h0 a0 (zI (zI (zI (zI (zI (zI (zI b0 1 0) 5 (b0 1)) 6 s_1.2.2.1) 7 s_1.2.2.2.1) 8 s_1.2.2.2.2.1) 9 s_1.2.2.2.2.2.1) 11 1) (zJ c0 28 s_1.2.1) k4 f4 o_34 hqo_34 H.size) (cwV 0 hts gX12_task_X12_here rfl rfl rfl zhd_X12_here ⟨Nat.le_of_ble_eq_true rfl, Nat.le_of_ble_eq_true rfl⟩) [0, 4] rfl (of_decide_eq_true rfl) [3] rfl rfl rfl rfl hl.1 rfl (Nat.le_of_ble_eq_true rfl) dX12_task_64 ⟨Nat.le_of_ble_eq_true rfl, Nat.le_of_ble_eq_true rfl⟩ [some 0, none, none, none, some 1] (of_decide_eq_true rfl) (of_decide_eq_true rfl) rfl rfl rfl (fun H locs hP hD hS => ?_)
      refine lv_iconst (v := (-1)) hx hb dX12_task_67 zci_m1 ?_
      refine lv_icmp_eq (tgt := 82) hx hb dX12_task_68 (of_decide_eq_true rfl) (fun c_38 => ?_) (fun c_38 => ?_)
      · have hfn := (if_pos c_38).symm.trans hfn
        exact jp_6 o_34.2 H locs ls hfn hP hD hS (lv_sub hl [1] rfl)
      have hfn := (if_neg c_38).symm.trans hfn
      refine lv_aload_n hx hb dX12_task_71 rfl (lv_at hl 1 rfl) ?_
      refine lv_iload_n hx hb dX12_task_72 rfl (lv_at hl 0 rfl) ?_
      obtain ⟨o_39, hqo_39, hfn⟩ := zb_s hfn
      refine zcVv (ci := 12) (rest := []) (pc' := 76) (ws' := [(h0, .inr (12, zO a0 (zI (zI (zI (zI (zI (zI (zI b0 1 0) 5 (b0 1)) 6 o_39.2.1) 7 o_39.2.2.1) 8 o_39.2.2.2.1) 9 o_39.2.2.2.2.1) 11 1) (zJ c0 28 o_39.1))), zVi (a0 12) k1 2 o_39.2.2.2.2.2.1, zVi (a0 17) k2 2 o_39.2.2.2.2.2.2.1, zVi (a0 24) k3 2 o_39.2.2.2.2.2.2.2.2.2.2.2.2.2.1, zVi (a0 0) k4 1200 f4, zVi (a0 10) k5 71 f5, zVi (a0 13) k6 8 o_39.2.2.2.2.2.2.2.1, zVi (a0 18) k7 28 o_39.2.2.2.2.2.2.2.2.1, zVi (a0 14) k8 8 o_39.2.2.2.2.2.2.2.2.2.1, zVi (a0 15) k9 8 o_39.2.2.2.2.2.2.2.2.2.2.1, zVi (a0 16) k10 8 o_39.2.2.2.2.2.2.2.2.2.2.2.1, zVi (a0 26) k11 28 o_39.2.2.2.2.2.2.2.2.2.2.2.2.1, zVi (a0 19) k12 28 o_39.2.2.2.2.2.2.2.2.2.2.2.2.2.2.1, zVi (a0 20) k13 28 o_39.2.2.2.2.2.2.2.2.2.2.2.2.2.2.2.1, zVi (a0 21) k14 28 o_39.2.2.2.2.2.2.2.2.2.2.2.2.2.2.2.2.1, zVi (a0 25) k15 28 o_39.2.2.2.2.2.2.2.2.2.2.2.2.2.2.2.2.2.1, zVi (a0 27) k16 28 o_39.2.2.2.2.2.2.2.2.2.2.2.2.2.2.2.2.2.2.1, zVl (a0 22) k17 28 o_39.2.2.2.2.2.2.2.2.2.2.2.2.2.2.2.2.2.2.2.1, zVl (a0 23) k18 28 o_39.2.2.2.2.2.2.2.2.2.2.2.2.2.2.2.2.2.2.2.2, zVi (a0 37) k19 14 f19, zVi (a0 2) k20 5 f20]) hP hK hD hS hA ⟨hx, hb, hml, hown, hts⟩ (zf_X12_readsStatement l dC dI h0 s_1.1 a0 (zI (zI (zI (zI (zI (zI (zI b0 1 0) 5 (b0 1)) 6 o_34.2) 7 s_1.2.2.2.1) 8 s_1.2.2.2.2.1) 9 s_1.2.2.2.2.2.1) 11 1) (zJ c0 28 s_1.2.1) k4 f4 k5 f5 k1 s_1.2.2.2.2.2.2.1 k2 s_1.2.2.2.2.2.2.2.2.2.2.2.1 k6 s_1.2.2.2.2.2.2.2.1 k7 s_1.2.2.2.2.2.2.2.2.2.2.2.2.1 k8 s_1.2.2.2.2.2.2.2.2.1 k9 s_1.2.2.2.2.2.2.2.2.2.1 k10 s_1.2.2.2.2.2.2.2.2.2.2.1 k11 s_1.2.2.2.2.2.2.2.2.2.2.2.2.2.2.2.2.2.2.2.2.1 k3 s_1.2.2.2.2.2.2.2.2.2.2.2.2.2.2.2.2.2.2.1 k12 s_1.2.2.2.2.2.2.2.2.2.2.2.2.2.1 k13 s_1.2.2.2.2.2.2.2.2.2.2.2.2.2.2.1 k14 s_1.2.2.2.2.2.2.2.2.2.2.2.2.2.2.2.1 k15 s_1.2.2.2.2.2.2.2.2.2.2.2.2.2.2.2.2.2.2.2.1 k16 s_1.2.2.2.2.2.2.2.2.2.2.2.2.2.2.2.2.2.2.2.2.2 k17 s_1.2.2.2.2.2.2.2.2.2.2.2.2.2.2.2.2.1 k18 s_1.2.2.2.2.2.2.2.2.2.2.2.2.2.2.2.2.2.1 o_39 hqo_39 H.size) (cwV 1 hts gX12_task_X12_readsStatement rfl rfl rfl zhd_X12_readsStatement ⟨Nat.le_of_ble_eq_true rfl, Nat.le_of_ble_eq_true rfl⟩) [0, 4, 5, 1, 2, 6, 7, 8, 9, 10, 11, 3, 12, 13, 14, 15, 16, 17, 18] rfl (of_decide_eq_true rfl) [3, 4, 0, 1, 5, 6, 7, 8, 9, 10, 2, 11, 12, 13, 14, 15, 16, 17] rfl rfl rfl rfl hl.1 rfl (Nat.le_of_ble_eq_true rfl) dX12_task_73 ⟨Nat.le_of_ble_eq_true rfl, Nat.le_of_ble_eq_true rfl⟩ [some 0, some 3, some 4, some 11, some 1, some 2, some 5, some 6, some 7, some 8, some 9, some 10, some 12, some 13, some 14, some 15, some 16, some 17, some 18] (of_decide_eq_true rfl) (of_decide_eq_true rfl) rfl rfl rfl (fun H locs hP hD hS => ?_)
      refine lv_iinc (v := (s_1.1 + 1)) (lv' := [(1, .int (s_1.1 + 1)), (0, .ref h0)]) hx hb dX12_task_76 hl (k := 0) rfl rfl (of_decide_eq_true rfl) rfl (fun ls hl => ?_)
      refine lv_goto (tgt := 56) hx hb dX12_task_79 (of_decide_eq_true rfl) ?_
      exact ih_1 ((s_1.1 + 1), o_39.1, o_39.2.1, o_39.2.2.1, o_39.2.2.2.1, o_39.2.2.2.2.1, o_39.2.2.2.2.2.1, o_39.2.2.2.2.2.2.2.1, o_39.2.2.2.2.2.2.2.2.2.1, o_39.2.2.2.2.2.2.2.2.2.2.1, o_39.2.2.2.2.2.2.2.2.2.2.2.1, o_39.2.2.2.2.2.2.1, o_39.2.2.2.2.2.2.2.2.1, o_39.2.2.2.2.2.2.2.2.2.2.2.2.2.2.1, o_39.2.2.2.2.2.2.2.2.2.2.2.2.2.2.2.1, o_39.2.2.2.2.2.2.2.2.2.2.2.2.2.2.2.2.1, o_39.2.2.2.2.2.2.2.2.2.2.2.2.2.2.2.2.2.2.2.1, o_39.2.2.2.2.2.2.2.2.2.2.2.2.2.2.2.2.2.2.2.2, o_39.2.2.2.2.2.2.2.2.2.2.2.2.2.1, o_39.2.2.2.2.2.2.2.2.2.2.2.2.2.2.2.2.2.1, o_39.2.2.2.2.2.2.2.2.2.2.2.2.1, o_39.2.2.2.2.2.2.2.2.2.2.2.2.2.2.2.2.2.2.1) H locs ls hfn hP hD hS (lv_sub hl [0, 1] rfl)
  exact lp_1 _ (0, (c0 28), 0, (b0 7), 0, (-1), (upd f1 (1 : Int32).toNatClampNeg 0), f6, f8, f9, f10, (upd f2 (1 : Int32).toNatClampNeg 0), f7, f12, f13, f14, f17, f18, (upd f3 (1 : Int32).toNatClampNeg 1), f15, f11, f16) H locs ls hfn hP hD hS (lv_sub hl [0, 1] rfl)
theorem zn_X12_fault_X12 : ∀ w ∈ wsX120, w ∈ wsX12_fault := fun _ h => List.mem_cons_of_mem _ (List.mem_append_right _ h)
theorem zw_X12_fault_1031 : Cond.fieldLink RX12 23 "ShortEnoughModel" "faultPlace" "I" ∈ wsX12_fault := List.mem_of_getElem? (i := 2) (by decide +kernel)
theorem zw_X12_fault_1032 : Cond.fieldLink RX12 20 "ShortEnoughModel" "faultKind" "I" ∈ wsX12_fault := List.mem_of_getElem? (i := 1) (by decide +kernel)
set_option maxHeartbeats 4000000 in
set_option maxRecDepth 100000 in
theorem zf_X12_fault (l : Launch) (dC : Nat → ClassId) (dI : Nat → Nat → Nat) (h0 : Nat) (p1 : Int32) (a0 : Nat → Nat) (b0 : Nat → Int32) (c0 : Nat → Int64) (o : Int32) (hfn : fn_X12_fault p1 (b0 3) (b0 4) = some o) (sz : Nat) : zMi l yX12_fault wsX12_fault ({ frames := 0, cells := 0, slots := 0, locals := 0 }) (dC, dI) vwCl [.ref h0, .int p1] [(h0, .inr (12, zO a0 b0 c0))] [] (fun r _ => r = o) [(h0, .inr (12, zO a0 b0 c0))] [] sz := by
  refine zgoi (cc := cX12_fault) (maxL := 2) (ret := (some .int)) (C0 := RX12) (lv0 := [(0, .ref h0), (1, .int p1)]) zpl_X12 rfl rfl rfl (Nat.le_of_ble_eq_true rfl) ?_
  intro p e s m below meth c A ls Q hx hb hr hts hown hlocks hml hP hK hD hA hS hl hQ
  unfold fn_X12_fault at hfn
  refine lv_iload_n hx hb dX12_fault_0 rfl (lv_at hl 1 rfl) ?_
  refine lv_if_ne (tgt := 11) hx hb dX12_fault_1 (of_decide_eq_true rfl) (fun c_1 => ?_) (fun c_1 => ?_)
  · have hfn := (if_neg c_1).symm.trans hfn
    refine lv_iload_n hx hb dX12_fault_11 rfl (lv_at hl 1 rfl) ?_
    refine lv_iconst (v := 1) hx hb dX12_fault_12 zci_1 ?_
    refine lv_icmp_ne (tgt := 23) hx hb dX12_fault_13 (of_decide_eq_true rfl) (fun c_2 => ?_) (fun c_2 => ?_)
    · have hfn := (if_neg c_2).symm.trans hfn
      refine lv_iconst (v := (-1)) hx hb dX12_fault_23 zci_m1 ?_
      have ho := Option.some.inj hfn
      subst ho
      exact zri hx hb hr hK hP hD hS hQ rfl hlocks dX12_fault_24
    have hfn := (if_pos c_2).symm.trans hfn
    refine lv_aload_n hx hb dX12_fault_16 rfl (lv_at hl 0 rfl) ?_
    refine va_get (D := (dC, dI)) (ci := 12) (v := .int (b0 4)) (C := RX12) (T := TX12) (N := 67) hx hb hts zn_X12_fault_X12 hown hK hP 0 rfl rfl 4 (of_decide_eq_true rfl) (hts (.fieldLink RX12 23 "ShortEnoughModel" "faultPlace" "I") zw_X12_fault_1031) (fun _ h9 => h9) rfl dX12_fault_17 ?_
    refine lv_goto (tgt := 24) hx hb dX12_fault_20 (of_decide_eq_true rfl) ?_
    have ho := Option.some.inj hfn
    subst ho
    exact zri hx hb hr hK hP hD hS hQ rfl hlocks dX12_fault_24
  have hfn := (if_pos c_1).symm.trans hfn
  refine lv_aload_n hx hb dX12_fault_4 rfl (lv_at hl 0 rfl) ?_
  refine va_get (D := (dC, dI)) (ci := 12) (v := .int (b0 3)) (C := RX12) (T := TX12) (N := 67) hx hb hts zn_X12_fault_X12 hown hK hP 0 rfl rfl 3 (of_decide_eq_true rfl) (hts (.fieldLink RX12 20 "ShortEnoughModel" "faultKind" "I") zw_X12_fault_1032) (fun _ h9 => h9) rfl dX12_fault_5 ?_
  refine lv_goto (tgt := 24) hx hb dX12_fault_8 (of_decide_eq_true rfl) ?_
  have ho := Option.some.inj hfn
  subst ho
  exact zri hx hb hr hK hP hD hS hQ rfl hlocks dX12_fault_24
theorem zn_X12_isNumber_X12 : ∀ w ∈ wsX120, w ∈ wsX12_isNumber := fun _ h => List.mem_cons_of_mem _ (List.mem_append_right _ h)
theorem zw_X12_isNumber_1034 : Cond.fieldLink RX12 62 "ShortEnoughModel" "numbers" "[I" ∈ wsX12_isNumber := List.mem_of_getElem? (i := 1) (by decide +kernel)
set_option maxHeartbeats 4000000 in
set_option maxRecDepth 100000 in
theorem zf_X12_isNumber (l : Launch) (dC : Nat → ClassId) (dI : Nat → Nat → Nat) (h0 : Nat) (p1 : Int32) (a0 : Nat → Nat) (b0 : Nat → Int32) (c0 : Nat → Int64) (k1 : Nat) (f1 : Nat → Int32) (o : Int32) (hfn : fn_X12_isNumber p1 f1 = some o) (sz : Nat) : zMi l yX12_isNumber wsX12_isNumber ({ frames := 1, cells := 0, slots := 0, locals := 25 }) (dC, dI) vwCl [.ref h0, .int p1] [(h0, .inr (12, zO a0 b0 c0)), zVi (a0 17) k1 2 f1] [(k1, .int)] (fun r _ => r = o ∧ narrow .boolean (.int o) = .int o) [(h0, .inr (12, zO a0 b0 c0)), zVi (a0 17) k1 2 f1] [(k1, .int)] sz := by
  refine zgoi (cc := cX12_isNumber) (maxL := 2) (ret := (some .boolean)) (C0 := RX12) (lv0 := [(0, .ref h0), (1, .int p1)]) zpl_X12 rfl rfl rfl (Nat.le_of_ble_eq_true rfl) ?_
  intro p e s m below meth c A ls Q hx hb hr hts hown hlocks hml hP hK hD hA hS hl hQ
  unfold fn_X12_isNumber at hfn
  refine lv_iload_n hx hb dX12_isNumber_0 rfl (lv_at hl 1 rfl) ?_
  refine lv_i2l (v := p1.toInt64) hx hb dX12_isNumber_1 rfl ?_
  refine lv_lconst (v := 0) hx hb dX12_isNumber_2 (by decide +kernel) ?_
  refine lv_aload_n hx hb dX12_isNumber_3 rfl (lv_at hl 0 rfl) ?_
  refine va_get (D := (dC, dI)) (ci := 12) (v := .ref (a0 17)) (C := RX12) (T := TX12) (N := 67) hx hb hts zn_X12_isNumber_X12 hown hK hP 0 rfl rfl 17 (of_decide_eq_true rfl) (hts (.fieldLink RX12 62 "ShortEnoughModel" "numbers" "[I") zw_X12_isNumber_1034) (fun _ h9 => h9) rfl dX12_isNumber_4 ?_
  refine lv_iconst (v := 0) hx hb dX12_isNumber_7 zci_0 ?_
  refine va_iald hx hb hK hP 1 0 rfl rfl (zv_in (by decide +kernel)) dX12_isNumber_8 ?_
  refine lv_i2l (v := (f1 (0 : Int32).toNatClampNeg).toInt64) hx hb dX12_isNumber_9 rfl ?_
  refine lv_lconst (v := 1) hx hb dX12_isNumber_10 (by decide +kernel) ?_
  refine lv_lsub hx hb dX12_isNumber_11 ?_
  obtain ⟨o_1, hqo_1, hfn⟩ := zb_s hfn
  refine zcSb (rest := []) (pc' := 15) (ws' := [(h0, .inr (12, zO a0 b0 c0)), zVi (a0 17) k1 2 f1]) hP hK hD hS hA ⟨hx, hb, hml, hown, hts⟩ (zf_X12_isIn l dC dI p1.toInt64 (0 : Int64) ((f1 (0 : Int32).toNatClampNeg).toInt64 - (1 : Int64)) o_1 hqo_1 s.heap.size) (va_cwS 3 hts gX12_isNumber_X12_isIn rfl rfl rfl zhd_X12_isIn.2 ⟨Nat.le_of_ble_eq_true rfl, Nat.le_of_ble_eq_true rfl⟩) [] rfl (of_decide_eq_true rfl) [] rfl rfl hl.1 rfl (Nat.le_of_ble_eq_true rfl) dX12_isNumber_12 ⟨Nat.le_of_ble_eq_true rfl, Nat.le_of_ble_eq_true rfl⟩ [] (of_decide_eq_true rfl) (of_decide_eq_true rfl) rfl rfl rfl (fun H locs hw_4n hP hD hS => ?_)
  have ho := Option.some.inj hfn
  subst ho
  exact zrz hx hb hr hw_4n hK hP hD hS hQ ⟨rfl, hw_4n⟩ hlocks dX12_isNumber_15
theorem zn_X12_isFormat_X12 : ∀ w ∈ wsX120, w ∈ wsX12_isFormat := fun _ h => List.mem_cons_of_mem _ (List.mem_append_right _ h)
theorem zw_X12_isFormat_1036 : Cond.fieldLink RX12 47 "ShortEnoughModel" "formats" "[I" ∈ wsX12_isFormat := List.mem_of_getElem? (i := 1) (by decide +kernel)
set_option maxHeartbeats 4000000 in
set_option maxRecDepth 100000 in
theorem zf_X12_isFormat (l : Launch) (dC : Nat → ClassId) (dI : Nat → Nat → Nat) (h0 : Nat) (p1 : Int32) (a0 : Nat → Nat) (b0 : Nat → Int32) (c0 : Nat → Int64) (k1 : Nat) (f1 : Nat → Int32) (o : Int32) (hfn : fn_X12_isFormat p1 f1 = some o) (sz : Nat) : zMi l yX12_isFormat wsX12_isFormat ({ frames := 1, cells := 0, slots := 0, locals := 25 }) (dC, dI) vwCl [.ref h0, .int p1] [(h0, .inr (12, zO a0 b0 c0)), zVi (a0 12) k1 2 f1] [(k1, .int)] (fun r _ => r = o ∧ narrow .boolean (.int o) = .int o) [(h0, .inr (12, zO a0 b0 c0)), zVi (a0 12) k1 2 f1] [(k1, .int)] sz := by
  refine zgoi (cc := cX12_isFormat) (maxL := 2) (ret := (some .boolean)) (C0 := RX12) (lv0 := [(0, .ref h0), (1, .int p1)]) zpl_X12 rfl rfl rfl (Nat.le_of_ble_eq_true rfl) ?_
  intro p e s m below meth c A ls Q hx hb hr hts hown hlocks hml hP hK hD hA hS hl hQ
  unfold fn_X12_isFormat at hfn
  refine lv_iload_n hx hb dX12_isFormat_0 rfl (lv_at hl 1 rfl) ?_
  refine lv_i2l (v := p1.toInt64) hx hb dX12_isFormat_1 rfl ?_
  refine lv_lconst (v := 0) hx hb dX12_isFormat_2 (by decide +kernel) ?_
  refine lv_aload_n hx hb dX12_isFormat_3 rfl (lv_at hl 0 rfl) ?_
  refine va_get (D := (dC, dI)) (ci := 12) (v := .ref (a0 12)) (C := RX12) (T := TX12) (N := 67) hx hb hts zn_X12_isFormat_X12 hown hK hP 0 rfl rfl 12 (of_decide_eq_true rfl) (hts (.fieldLink RX12 47 "ShortEnoughModel" "formats" "[I") zw_X12_isFormat_1036) (fun _ h9 => h9) rfl dX12_isFormat_4 ?_
  refine lv_iconst (v := 0) hx hb dX12_isFormat_7 zci_0 ?_
  refine va_iald hx hb hK hP 1 0 rfl rfl (zv_in (by decide +kernel)) dX12_isFormat_8 ?_
  refine lv_i2l (v := (f1 (0 : Int32).toNatClampNeg).toInt64) hx hb dX12_isFormat_9 rfl ?_
  refine lv_lconst (v := 1) hx hb dX12_isFormat_10 (by decide +kernel) ?_
  refine lv_lsub hx hb dX12_isFormat_11 ?_
  obtain ⟨o_1, hqo_1, hfn⟩ := zb_s hfn
  refine zcSb (rest := []) (pc' := 15) (ws' := [(h0, .inr (12, zO a0 b0 c0)), zVi (a0 12) k1 2 f1]) hP hK hD hS hA ⟨hx, hb, hml, hown, hts⟩ (zf_X12_isIn l dC dI p1.toInt64 (0 : Int64) ((f1 (0 : Int32).toNatClampNeg).toInt64 - (1 : Int64)) o_1 hqo_1 s.heap.size) (va_cwS 3 hts gX12_isFormat_X12_isIn rfl rfl rfl zhd_X12_isIn.2 ⟨Nat.le_of_ble_eq_true rfl, Nat.le_of_ble_eq_true rfl⟩) [] rfl (of_decide_eq_true rfl) [] rfl rfl hl.1 rfl (Nat.le_of_ble_eq_true rfl) dX12_isFormat_12 ⟨Nat.le_of_ble_eq_true rfl, Nat.le_of_ble_eq_true rfl⟩ [] (of_decide_eq_true rfl) (of_decide_eq_true rfl) rfl rfl rfl (fun H locs hw_4n hP hD hS => ?_)
  have ho := Option.some.inj hfn
  subst ho
  exact zrz hx hb hr hw_4n hK hP hD hS hQ ⟨rfl, hw_4n⟩ hlocks dX12_isFormat_15
theorem zn_X12_inputs_X12 : ∀ w ∈ wsX120, w ∈ wsX12_inputs := fun _ h => List.mem_cons_of_mem _ (List.mem_append_right _ h)
theorem zw_X12_inputs_1038 : Cond.fieldLink RX12 62 "ShortEnoughModel" "numbers" "[I" ∈ wsX12_inputs := List.mem_of_getElem? (i := 1) (by decide +kernel)
theorem zw_X12_inputs_1039 : Cond.fieldLink RX12 68 "ShortEnoughModel" "op" "[I" ∈ wsX12_inputs := List.mem_of_getElem? (i := 2) (by decide +kernel)
set_option maxHeartbeats 4000000 in
set_option maxRecDepth 100000 in
theorem zf_X12_inputs (l : Launch) (dC : Nat → ClassId) (dI : Nat → Nat → Nat) (h0 : Nat) (a0 : Nat → Nat) (b0 : Nat → Int32) (c0 : Nat → Int64) (k1 : Nat) (f1 : Nat → Int32) (k2 : Nat) (f2 : Nat → Int32) (o : Int32) (hfn : fn_X12_inputs f1 f2 = some o) (sz : Nat) : zMi l yX12_inputs wsX12_inputs ({ frames := 0, cells := 0, slots := 0, locals := 0 }) (dC, dI) vwCl [.ref h0] [(h0, .inr (12, zO a0 b0 c0)), zVi (a0 17) k1 2 f1, zVi (a0 19) k2 28 f2] [(k1, .int), (k2, .int)] (fun r _ => r = o) [(h0, .inr (12, zO a0 b0 c0)), zVi (a0 17) k1 2 f1, zVi (a0 19) k2 28 f2] [(k1, .int), (k2, .int)] sz := by
  refine zgoi (cc := cX12_inputs) (maxL := 3) (ret := (some .int)) (C0 := RX12) (lv0 := [(0, .ref h0)]) zpl_X12 rfl rfl rfl (Nat.le_of_ble_eq_true rfl) ?_
  intro p e s m below meth c A ls Q hx hb hr hts hown hlocks hml hP hK hD hA hS hl hQ
  unfold fn_X12_inputs at hfn
  refine lv_iconst (v := 0) hx hb dX12_inputs_0 zci_0 ?_
  refine lv_istore_n (lv' := [(1, .int 0), (0, .ref h0)]) hx hb dX12_inputs_1 rfl hl (of_decide_eq_true rfl) rfl (fun ls hl => ?_)
  refine lv_iconst (v := 0) hx hb dX12_inputs_2 zci_0 ?_
  refine lv_istore_n (lv' := [(2, .int 0), (1, .int 0), (0, .ref h0)]) hx hb dX12_inputs_3 rfl hl (of_decide_eq_true rfl) rfl (fun ls hl => ?_)
  obtain ⟨bd_1, ebd_1, hfn⟩ := zl_g hfn
  have lp_1 : ∀ (n : Nat) (s_1 : Int32 × Int32) (H : Heap) (locs : List Loc) (ls : Array Slot), zl bd_1 n s_1 = some o → va_P (dC, dI) vwCl [(h0, .inr (12, zO a0 b0 c0)), zVi (a0 17) k1 2 f1, zVi (a0 19) k2 28 f2] H → va_D A [(h0, .inr (12, zO a0 b0 c0)), zVi (a0 17) k1 2 f1, zVi (a0 19) k2 28 f2] → va_S A s.heap H locs → lv_has ls 3 [(2, .int s_1.2), (1, .int s_1.1), (0, .ref h0)] → W p l e (headSpec wsX12_inputs ({ frames := 0, cells := 0, slots := 0, locals := 0 })).room s m ([.ref h0] : List Value).toArray below meth c H locs 0 0 Q (F0 m 4 ls []) := by
    intro n
    induction n with
    | zero => exact fun _ _ _ _ hfn => (zl_0 hfn).elim
    | succ n ih_1 =>
      intro s_1 H locs ls hfn hP hD hS hl
      have hfn := zl_s ebd_1 hfn
      refine lv_iload_n hx hb dX12_inputs_4 rfl (lv_at hl 0 rfl) ?_
      refine lv_aload_n hx hb dX12_inputs_5 rfl (lv_at hl 2 rfl) ?_
      refine va_get (D := (dC, dI)) (ci := 12) (v := .ref (a0 17)) (C := RX12) (T := TX12) (N := 67) hx hb hts zn_X12_inputs_X12 hown hK hP 0 rfl rfl 17 (of_decide_eq_true rfl) (hts (.fieldLink RX12 62 "ShortEnoughModel" "numbers" "[I") zw_X12_inputs_1038) (fun _ h9 => h9) rfl dX12_inputs_6 ?_
      refine lv_iconst (v := 0) hx hb dX12_inputs_9 zci_0 ?_
      refine va_iald hx hb hK hP 1 0 rfl rfl (zv_in (by decide +kernel)) dX12_inputs_10 ?_
      refine lv_icmp_ge (tgt := 37) hx hb dX12_inputs_11 (of_decide_eq_true rfl) (fun c_2 => ?_) (fun c_2 => ?_)
      · have hfn := (if_pos c_2).symm.trans hfn
        refine lv_iload_n hx hb dX12_inputs_37 rfl (lv_at hl 1 rfl) ?_
        have ho := Option.some.inj hfn
        subst ho
        exact zri hx hb hr hK hP hD hS hQ rfl hlocks dX12_inputs_38
      have hfn := (if_neg c_2).symm.trans hfn
      refine lv_iload_n hx hb dX12_inputs_14 rfl (lv_at hl 1 rfl) ?_
      refine lv_aload_n hx hb dX12_inputs_15 rfl (lv_at hl 2 rfl) ?_
      refine va_get (D := (dC, dI)) (ci := 12) (v := .ref (a0 19)) (C := RX12) (T := TX12) (N := 67) hx hb hts zn_X12_inputs_X12 hown hK hP 0 rfl rfl 19 (of_decide_eq_true rfl) (hts (.fieldLink RX12 68 "ShortEnoughModel" "op" "[I") zw_X12_inputs_1039) (fun _ h9 => h9) rfl dX12_inputs_16 ?_
      refine lv_iload_n hx hb dX12_inputs_19 rfl (lv_at hl 0 rfl) ?_
      obtain ⟨h_3, hfn⟩ := zg_s hfn
      refine va_iald hx hb hK hP 2 1 rfl rfl h_3 dX12_inputs_20 ?_
      refine lv_if_ne (tgt := 28) hx hb dX12_inputs_21 (of_decide_eq_true rfl) (fun c_4 => ?_) (fun c_4 => ?_)
      · have hfn := (if_neg c_4).symm.trans hfn
        refine lv_iconst (v := 0) hx hb dX12_inputs_28 zci_0 ?_
        refine lv_iadd hx hb dX12_inputs_29 ?_
        refine lv_istore_n (lv' := [(1, .int (s_1.1 + 0)), (2, .int s_1.2), (0, .ref h0)]) hx hb dX12_inputs_30 rfl hl (of_decide_eq_true rfl) rfl (fun ls hl => ?_)
        refine lv_iinc (v := (s_1.2 + 1)) (lv' := [(2, .int (s_1.2 + 1)), (1, .int (s_1.1 + 0)), (0, .ref h0)]) hx hb dX12_inputs_31 hl (k := 1) rfl rfl (of_decide_eq_true rfl) rfl (fun ls hl => ?_)
        refine lv_goto (tgt := 4) hx hb dX12_inputs_34 (of_decide_eq_true rfl) ?_
        exact ih_1 ((s_1.1 + 0), (s_1.2 + 1)) H locs ls hfn hP hD hS (lv_sub hl [0, 1, 2] rfl)
      have hfn := (if_pos c_4).symm.trans hfn
      refine lv_iconst (v := 1) hx hb dX12_inputs_24 zci_1 ?_
      refine lv_goto (tgt := 29) hx hb dX12_inputs_25 (of_decide_eq_true rfl) ?_
      refine lv_iadd hx hb dX12_inputs_29 ?_
      refine lv_istore_n (lv' := [(1, .int (s_1.1 + 1)), (2, .int s_1.2), (0, .ref h0)]) hx hb dX12_inputs_30 rfl hl (of_decide_eq_true rfl) rfl (fun ls hl => ?_)
      refine lv_iinc (v := (s_1.2 + 1)) (lv' := [(2, .int (s_1.2 + 1)), (1, .int (s_1.1 + 1)), (0, .ref h0)]) hx hb dX12_inputs_31 hl (k := 1) rfl rfl (of_decide_eq_true rfl) rfl (fun ls hl => ?_)
      refine lv_goto (tgt := 4) hx hb dX12_inputs_34 (of_decide_eq_true rfl) ?_
      exact ih_1 ((s_1.1 + 1), (s_1.2 + 1)) H locs ls hfn hP hD hS (lv_sub hl [0, 1, 2] rfl)
  exact lp_1 _ (0, 0) s.heap [] ls hfn hP hD hS (lv_sub hl [0, 1, 2] rfl)
theorem zn_X12_answers_X12 : ∀ w ∈ wsX120, w ∈ wsX12_answers := fun _ h => List.mem_cons_of_mem _ (List.mem_append_right _ h)
theorem zw_X12_answers_1041 : Cond.fieldLink RX12 62 "ShortEnoughModel" "numbers" "[I" ∈ wsX12_answers := List.mem_of_getElem? (i := 1) (by decide +kernel)
theorem zw_X12_answers_1042 : Cond.fieldLink RX12 90 "ShortEnoughModel" "within" "[I" ∈ wsX12_answers := List.mem_of_getElem? (i := 2) (by decide +kernel)
set_option maxHeartbeats 4000000 in
set_option maxRecDepth 100000 in
theorem zf_X12_answers (l : Launch) (dC : Nat → ClassId) (dI : Nat → Nat → Nat) (h0 : Nat) (a0 : Nat → Nat) (b0 : Nat → Int32) (c0 : Nat → Int64) (k1 : Nat) (f1 : Nat → Int32) (k2 : Nat) (f2 : Nat → Int32) (o : Int32) (hfn : fn_X12_answers f1 f2 = some o) (sz : Nat) : zMi l yX12_answers wsX12_answers ({ frames := 0, cells := 0, slots := 0, locals := 0 }) (dC, dI) vwCl [.ref h0] [(h0, .inr (12, zO a0 b0 c0)), zVi (a0 17) k1 2 f1, zVi (a0 26) k2 28 f2] [(k1, .int), (k2, .int)] (fun r _ => r = o) [(h0, .inr (12, zO a0 b0 c0)), zVi (a0 17) k1 2 f1, zVi (a0 26) k2 28 f2] [(k1, .int), (k2, .int)] sz := by
  refine zgoi (cc := cX12_answers) (maxL := 3) (ret := (some .int)) (C0 := RX12) (lv0 := [(0, .ref h0)]) zpl_X12 rfl rfl rfl (Nat.le_of_ble_eq_true rfl) ?_
  intro p e s m below meth c A ls Q hx hb hr hts hown hlocks hml hP hK hD hA hS hl hQ
  unfold fn_X12_answers at hfn
  refine lv_iconst (v := 0) hx hb dX12_answers_0 zci_0 ?_
  refine lv_istore_n (lv' := [(1, .int 0), (0, .ref h0)]) hx hb dX12_answers_1 rfl hl (of_decide_eq_true rfl) rfl (fun ls hl => ?_)
  refine lv_iconst (v := 0) hx hb dX12_answers_2 zci_0 ?_
  refine lv_istore_n (lv' := [(2, .int 0), (1, .int 0), (0, .ref h0)]) hx hb dX12_answers_3 rfl hl (of_decide_eq_true rfl) rfl (fun ls hl => ?_)
  obtain ⟨bd_1, ebd_1, hfn⟩ := zl_g hfn
  have lp_1 : ∀ (n : Nat) (s_1 : Int32 × Int32) (H : Heap) (locs : List Loc) (ls : Array Slot), zl bd_1 n s_1 = some o → va_P (dC, dI) vwCl [(h0, .inr (12, zO a0 b0 c0)), zVi (a0 17) k1 2 f1, zVi (a0 26) k2 28 f2] H → va_D A [(h0, .inr (12, zO a0 b0 c0)), zVi (a0 17) k1 2 f1, zVi (a0 26) k2 28 f2] → va_S A s.heap H locs → lv_has ls 3 [(2, .int s_1.2), (1, .int s_1.1), (0, .ref h0)] → W p l e (headSpec wsX12_answers ({ frames := 0, cells := 0, slots := 0, locals := 0 })).room s m ([.ref h0] : List Value).toArray below meth c H locs 0 0 Q (F0 m 4 ls []) := by
    intro n
    induction n with
    | zero => exact fun _ _ _ _ hfn => (zl_0 hfn).elim
    | succ n ih_1 =>
      intro s_1 H locs ls hfn hP hD hS hl
      have hfn := zl_s ebd_1 hfn
      refine lv_iload_n hx hb dX12_answers_4 rfl (lv_at hl 0 rfl) ?_
      refine lv_aload_n hx hb dX12_answers_5 rfl (lv_at hl 2 rfl) ?_
      refine va_get (D := (dC, dI)) (ci := 12) (v := .ref (a0 17)) (C := RX12) (T := TX12) (N := 67) hx hb hts zn_X12_answers_X12 hown hK hP 0 rfl rfl 17 (of_decide_eq_true rfl) (hts (.fieldLink RX12 62 "ShortEnoughModel" "numbers" "[I") zw_X12_answers_1041) (fun _ h9 => h9) rfl dX12_answers_6 ?_
      refine lv_iconst (v := 0) hx hb dX12_answers_9 zci_0 ?_
      refine va_iald hx hb hK hP 1 0 rfl rfl (zv_in (by decide +kernel)) dX12_answers_10 ?_
      refine lv_icmp_ge (tgt := 38) hx hb dX12_answers_11 (of_decide_eq_true rfl) (fun c_2 => ?_) (fun c_2 => ?_)
      · have hfn := (if_pos c_2).symm.trans hfn
        refine lv_iload_n hx hb dX12_answers_38 rfl (lv_at hl 1 rfl) ?_
        have ho := Option.some.inj hfn
        subst ho
        exact zri hx hb hr hK hP hD hS hQ rfl hlocks dX12_answers_39
      have hfn := (if_neg c_2).symm.trans hfn
      refine lv_iload_n hx hb dX12_answers_14 rfl (lv_at hl 1 rfl) ?_
      refine lv_aload_n hx hb dX12_answers_15 rfl (lv_at hl 2 rfl) ?_
      refine va_get (D := (dC, dI)) (ci := 12) (v := .ref (a0 26)) (C := RX12) (T := TX12) (N := 67) hx hb hts zn_X12_answers_X12 hown hK hP 0 rfl rfl 26 (of_decide_eq_true rfl) (hts (.fieldLink RX12 90 "ShortEnoughModel" "within" "[I") zw_X12_answers_1042) (fun _ h9 => h9) rfl dX12_answers_16 ?_
      refine lv_iload_n hx hb dX12_answers_19 rfl (lv_at hl 0 rfl) ?_
      obtain ⟨h_3, hfn⟩ := zg_s hfn
      refine va_iald hx hb hK hP 2 1 rfl rfl h_3 dX12_answers_20 ?_
      refine lv_iconst (v := (-1)) hx hb dX12_answers_21 zci_m1 ?_
      refine lv_icmp_ne (tgt := 29) hx hb dX12_answers_22 (of_decide_eq_true rfl) (fun c_4 => ?_) (fun c_4 => ?_)
      · have hfn := (if_neg c_4).symm.trans hfn
        refine lv_iconst (v := 1) hx hb dX12_answers_29 zci_1 ?_
        refine lv_iadd hx hb dX12_answers_30 ?_
        refine lv_istore_n (lv' := [(1, .int (s_1.1 + 1)), (2, .int s_1.2), (0, .ref h0)]) hx hb dX12_answers_31 rfl hl (of_decide_eq_true rfl) rfl (fun ls hl => ?_)
        refine lv_iinc (v := (s_1.2 + 1)) (lv' := [(2, .int (s_1.2 + 1)), (1, .int (s_1.1 + 1)), (0, .ref h0)]) hx hb dX12_answers_32 hl (k := 1) rfl rfl (of_decide_eq_true rfl) rfl (fun ls hl => ?_)
        refine lv_goto (tgt := 4) hx hb dX12_answers_35 (of_decide_eq_true rfl) ?_
        exact ih_1 ((s_1.1 + 1), (s_1.2 + 1)) H locs ls hfn hP hD hS (lv_sub hl [0, 1, 2] rfl)
      have hfn := (if_pos c_4).symm.trans hfn
      refine lv_iconst (v := 0) hx hb dX12_answers_25 zci_0 ?_
      refine lv_goto (tgt := 30) hx hb dX12_answers_26 (of_decide_eq_true rfl) ?_
      refine lv_iadd hx hb dX12_answers_30 ?_
      refine lv_istore_n (lv' := [(1, .int (s_1.1 + 0)), (2, .int s_1.2), (0, .ref h0)]) hx hb dX12_answers_31 rfl hl (of_decide_eq_true rfl) rfl (fun ls hl => ?_)
      refine lv_iinc (v := (s_1.2 + 1)) (lv' := [(2, .int (s_1.2 + 1)), (1, .int (s_1.1 + 0)), (0, .ref h0)]) hx hb dX12_answers_32 hl (k := 1) rfl rfl (of_decide_eq_true rfl) rfl (fun ls hl => ?_)
      refine lv_goto (tgt := 4) hx hb dX12_answers_35 (of_decide_eq_true rfl) ?_
      exact ih_1 ((s_1.1 + 0), (s_1.2 + 1)) H locs ls hfn hP hD hS (lv_sub hl [0, 1, 2] rfl)
  exact lp_1 _ (0, 0) s.heap [] ls hfn hP hD hS (lv_sub hl [0, 1, 2] rfl)
theorem zn_X12_groups_X12 : ∀ w ∈ wsX120, w ∈ wsX12_groups := fun _ h => List.mem_cons_of_mem _ (List.mem_append_right _ h)
theorem zw_X12_groups_1044 : Cond.fieldLink RX12 62 "ShortEnoughModel" "numbers" "[I" ∈ wsX12_groups := List.mem_of_getElem? (i := 1) (by decide +kernel)
theorem zw_X12_groups_1045 : Cond.fieldLink RX12 93 "ShortEnoughModel" "groupOf" "[I" ∈ wsX12_groups := List.mem_of_getElem? (i := 2) (by decide +kernel)
set_option maxHeartbeats 4000000 in
set_option maxRecDepth 100000 in
theorem zf_X12_groups (l : Launch) (dC : Nat → ClassId) (dI : Nat → Nat → Nat) (h0 : Nat) (a0 : Nat → Nat) (b0 : Nat → Int32) (c0 : Nat → Int64) (k1 : Nat) (f1 : Nat → Int32) (k2 : Nat) (f2 : Nat → Int32) (o : Int32) (hfn : fn_X12_groups f1 f2 = some o) (sz : Nat) : zMi l yX12_groups wsX12_groups ({ frames := 0, cells := 0, slots := 0, locals := 0 }) (dC, dI) vwCl [.ref h0] [(h0, .inr (12, zO a0 b0 c0)), zVi (a0 17) k1 2 f1, zVi (a0 27) k2 28 f2] [(k1, .int), (k2, .int)] (fun r _ => r = o) [(h0, .inr (12, zO a0 b0 c0)), zVi (a0 17) k1 2 f1, zVi (a0 27) k2 28 f2] [(k1, .int), (k2, .int)] sz := by
  refine zgoi (cc := cX12_groups) (maxL := 3) (ret := (some .int)) (C0 := RX12) (lv0 := [(0, .ref h0)]) zpl_X12 rfl rfl rfl (Nat.le_of_ble_eq_true rfl) ?_
  intro p e s m below meth c A ls Q hx hb hr hts hown hlocks hml hP hK hD hA hS hl hQ
  unfold fn_X12_groups at hfn
  refine lv_iconst (v := 0) hx hb dX12_groups_0 zci_0 ?_
  refine lv_istore_n (lv' := [(1, .int 0), (0, .ref h0)]) hx hb dX12_groups_1 rfl hl (of_decide_eq_true rfl) rfl (fun ls hl => ?_)
  refine lv_iconst (v := 0) hx hb dX12_groups_2 zci_0 ?_
  refine lv_istore_n (lv' := [(2, .int 0), (1, .int 0), (0, .ref h0)]) hx hb dX12_groups_3 rfl hl (of_decide_eq_true rfl) rfl (fun ls hl => ?_)
  obtain ⟨bd_1, ebd_1, hfn⟩ := zl_g hfn
  have lp_1 : ∀ (n : Nat) (s_1 : Int32 × Int32) (H : Heap) (locs : List Loc) (ls : Array Slot), zl bd_1 n s_1 = some o → va_P (dC, dI) vwCl [(h0, .inr (12, zO a0 b0 c0)), zVi (a0 17) k1 2 f1, zVi (a0 27) k2 28 f2] H → va_D A [(h0, .inr (12, zO a0 b0 c0)), zVi (a0 17) k1 2 f1, zVi (a0 27) k2 28 f2] → va_S A s.heap H locs → lv_has ls 3 [(2, .int s_1.2), (1, .int s_1.1), (0, .ref h0)] → W p l e (headSpec wsX12_groups ({ frames := 0, cells := 0, slots := 0, locals := 0 })).room s m ([.ref h0] : List Value).toArray below meth c H locs 0 0 Q (F0 m 4 ls []) := by
    intro n
    induction n with
    | zero => exact fun _ _ _ _ hfn => (zl_0 hfn).elim
    | succ n ih_1 =>
      intro s_1 H locs ls hfn hP hD hS hl
      have hfn := zl_s ebd_1 hfn
      refine lv_iload_n hx hb dX12_groups_4 rfl (lv_at hl 0 rfl) ?_
      refine lv_aload_n hx hb dX12_groups_5 rfl (lv_at hl 2 rfl) ?_
      refine va_get (D := (dC, dI)) (ci := 12) (v := .ref (a0 17)) (C := RX12) (T := TX12) (N := 67) hx hb hts zn_X12_groups_X12 hown hK hP 0 rfl rfl 17 (of_decide_eq_true rfl) (hts (.fieldLink RX12 62 "ShortEnoughModel" "numbers" "[I") zw_X12_groups_1044) (fun _ h9 => h9) rfl dX12_groups_6 ?_
      refine lv_iconst (v := 0) hx hb dX12_groups_9 zci_0 ?_
      refine va_iald hx hb hK hP 1 0 rfl rfl (zv_in (by decide +kernel)) dX12_groups_10 ?_
      refine lv_icmp_ge (tgt := 38) hx hb dX12_groups_11 (of_decide_eq_true rfl) (fun c_2 => ?_) (fun c_2 => ?_)
      · have hfn := (if_pos c_2).symm.trans hfn
        refine lv_iload_n hx hb dX12_groups_38 rfl (lv_at hl 1 rfl) ?_
        have ho := Option.some.inj hfn
        subst ho
        exact zri hx hb hr hK hP hD hS hQ rfl hlocks dX12_groups_39
      have hfn := (if_neg c_2).symm.trans hfn
      refine lv_iload_n hx hb dX12_groups_14 rfl (lv_at hl 1 rfl) ?_
      refine lv_aload_n hx hb dX12_groups_15 rfl (lv_at hl 2 rfl) ?_
      refine va_get (D := (dC, dI)) (ci := 12) (v := .ref (a0 27)) (C := RX12) (T := TX12) (N := 67) hx hb hts zn_X12_groups_X12 hown hK hP 0 rfl rfl 27 (of_decide_eq_true rfl) (hts (.fieldLink RX12 93 "ShortEnoughModel" "groupOf" "[I") zw_X12_groups_1045) (fun _ h9 => h9) rfl dX12_groups_16 ?_
      refine lv_iload_n hx hb dX12_groups_19 rfl (lv_at hl 0 rfl) ?_
      obtain ⟨h_3, hfn⟩ := zg_s hfn
      refine va_iald hx hb hK hP 2 1 rfl rfl h_3 dX12_groups_20 ?_
      refine lv_iload_n hx hb dX12_groups_21 rfl (lv_at hl 0 rfl) ?_
      refine lv_icmp_ne (tgt := 29) hx hb dX12_groups_22 (of_decide_eq_true rfl) (fun c_4 => ?_) (fun c_4 => ?_)
      · have hfn := (if_neg c_4).symm.trans hfn
        refine lv_iconst (v := 0) hx hb dX12_groups_29 zci_0 ?_
        refine lv_iadd hx hb dX12_groups_30 ?_
        refine lv_istore_n (lv' := [(1, .int (s_1.1 + 0)), (2, .int s_1.2), (0, .ref h0)]) hx hb dX12_groups_31 rfl hl (of_decide_eq_true rfl) rfl (fun ls hl => ?_)
        refine lv_iinc (v := (s_1.2 + 1)) (lv' := [(2, .int (s_1.2 + 1)), (1, .int (s_1.1 + 0)), (0, .ref h0)]) hx hb dX12_groups_32 hl (k := 1) rfl rfl (of_decide_eq_true rfl) rfl (fun ls hl => ?_)
        refine lv_goto (tgt := 4) hx hb dX12_groups_35 (of_decide_eq_true rfl) ?_
        exact ih_1 ((s_1.1 + 0), (s_1.2 + 1)) H locs ls hfn hP hD hS (lv_sub hl [0, 1, 2] rfl)
      have hfn := (if_pos c_4).symm.trans hfn
      refine lv_iconst (v := 1) hx hb dX12_groups_25 zci_1 ?_
      refine lv_goto (tgt := 30) hx hb dX12_groups_26 (of_decide_eq_true rfl) ?_
      refine lv_iadd hx hb dX12_groups_30 ?_
      refine lv_istore_n (lv' := [(1, .int (s_1.1 + 1)), (2, .int s_1.2), (0, .ref h0)]) hx hb dX12_groups_31 rfl hl (of_decide_eq_true rfl) rfl (fun ls hl => ?_)
      refine lv_iinc (v := (s_1.2 + 1)) (lv' := [(2, .int (s_1.2 + 1)), (1, .int (s_1.1 + 1)), (0, .ref h0)]) hx hb dX12_groups_32 hl (k := 1) rfl rfl (of_decide_eq_true rfl) rfl (fun ls hl => ?_)
      refine lv_goto (tgt := 4) hx hb dX12_groups_35 (of_decide_eq_true rfl) ?_
      exact ih_1 ((s_1.1 + 1), (s_1.2 + 1)) H locs ls hfn hP hD hS (lv_sub hl [0, 1, 2] rfl)
  exact lp_1 _ (0, 0) s.heap [] ls hfn hP hD hS (lv_sub hl [0, 1, 2] rfl)
theorem zn_X12_isFree_X12 : ∀ w ∈ wsX120, w ∈ wsX12_isFree := fun _ h => List.mem_cons_of_mem _ (List.mem_append_right _ h)
theorem zw_X12_isFree_1047 : Cond.fieldLink RX12 62 "ShortEnoughModel" "numbers" "[I" ∈ wsX12_isFree := List.mem_of_getElem? (i := 1) (by decide +kernel)
theorem zw_X12_isFree_1048 : Cond.fieldLink RX12 93 "ShortEnoughModel" "groupOf" "[I" ∈ wsX12_isFree := List.mem_of_getElem? (i := 2) (by decide +kernel)
theorem zw_X12_isFree_1049 : Cond.fieldLink RX12 87 "ShortEnoughModel" "fixedAs" "[I" ∈ wsX12_isFree := List.mem_of_getElem? (i := 3) (by decide +kernel)
set_option maxHeartbeats 4000000 in
set_option maxRecDepth 100000 in
theorem zf_X12_isFree (l : Launch) (dC : Nat → ClassId) (dI : Nat → Nat → Nat) (h0 : Nat) (p1 : Int32) (a0 : Nat → Nat) (b0 : Nat → Int32) (c0 : Nat → Int64) (k1 : Nat) (f1 : Nat → Int32) (k2 : Nat) (f2 : Nat → Int32) (k3 : Nat) (f3 : Nat → Int32) (o : Int32) (hfn : fn_X12_isFree p1 f1 f2 f3 = some o) (sz : Nat) : zMi l yX12_isFree wsX12_isFree ({ frames := 0, cells := 0, slots := 0, locals := 0 }) (dC, dI) vwCl [.ref h0, .int p1] [(h0, .inr (12, zO a0 b0 c0)), zVi (a0 17) k1 2 f1, zVi (a0 27) k2 28 f2, zVi (a0 25) k3 28 f3] [(k1, .int), (k2, .int), (k3, .int)] (fun r _ => r = o ∧ narrow .boolean (.int o) = .int o) [(h0, .inr (12, zO a0 b0 c0)), zVi (a0 17) k1 2 f1, zVi (a0 27) k2 28 f2, zVi (a0 25) k3 28 f3] [(k1, .int), (k2, .int), (k3, .int)] sz := by
  refine zgoi (cc := cX12_isFree) (maxL := 3) (ret := (some .boolean)) (C0 := RX12) (lv0 := [(0, .ref h0), (1, .int p1)]) zpl_X12 rfl rfl rfl (Nat.le_of_ble_eq_true rfl) ?_
  intro p e s m below meth c A ls Q hx hb hr hts hown hlocks hml hP hK hD hA hS hl hQ
  unfold fn_X12_isFree at hfn
  refine lv_iconst (v := 0) hx hb dX12_isFree_0 zci_0 ?_
  refine lv_istore_n (lv' := [(2, .int 0), (0, .ref h0), (1, .int p1)]) hx hb dX12_isFree_1 rfl hl (of_decide_eq_true rfl) rfl (fun ls hl => ?_)
  obtain ⟨bd_1, ebd_1, hfn⟩ := zl_g hfn
  have lp_1 : ∀ (n : Nat) (s_1 : Int32) (H : Heap) (locs : List Loc) (ls : Array Slot), zl bd_1 n s_1 = some o → va_P (dC, dI) vwCl [(h0, .inr (12, zO a0 b0 c0)), zVi (a0 17) k1 2 f1, zVi (a0 27) k2 28 f2, zVi (a0 25) k3 28 f3] H → va_D A [(h0, .inr (12, zO a0 b0 c0)), zVi (a0 17) k1 2 f1, zVi (a0 27) k2 28 f2, zVi (a0 25) k3 28 f3] → va_S A s.heap H locs → lv_has ls 3 [(2, .int s_1), (0, .ref h0), (1, .int p1)] → W p l e (headSpec wsX12_isFree ({ frames := 0, cells := 0, slots := 0, locals := 0 })).room s m ([.ref h0, .int p1] : List Value).toArray below meth c H locs 0 0 Q (F0 m 2 ls []) := by
    intro n
    induction n with
    | zero => exact fun _ _ _ _ hfn => (zl_0 hfn).elim
    | succ n ih_1 =>
      intro s_1 H locs ls hfn hP hD hS hl
      have hfn := zl_s ebd_1 hfn
      refine lv_iload_n hx hb dX12_isFree_2 rfl (lv_at hl 0 rfl) ?_
      refine lv_aload_n hx hb dX12_isFree_3 rfl (lv_at hl 1 rfl) ?_
      refine va_get (D := (dC, dI)) (ci := 12) (v := .ref (a0 17)) (C := RX12) (T := TX12) (N := 67) hx hb hts zn_X12_isFree_X12 hown hK hP 0 rfl rfl 17 (of_decide_eq_true rfl) (hts (.fieldLink RX12 62 "ShortEnoughModel" "numbers" "[I") zw_X12_isFree_1047) (fun _ h9 => h9) rfl dX12_isFree_4 ?_
      refine lv_iconst (v := 0) hx hb dX12_isFree_7 zci_0 ?_
      refine va_iald hx hb hK hP 1 0 rfl rfl (zv_in (by decide +kernel)) dX12_isFree_8 ?_
      refine lv_icmp_ge (tgt := 40) hx hb dX12_isFree_9 (of_decide_eq_true rfl) (fun c_2 => ?_) (fun c_2 => ?_)
      · have hfn := (if_pos c_2).symm.trans hfn
        refine lv_iconst (v := 1) hx hb dX12_isFree_40 zci_1 ?_
        have ho := Option.some.inj hfn
        subst ho
        exact zrz hx hb hr rfl hK hP hD hS hQ ⟨rfl, zB1⟩ hlocks dX12_isFree_41
      have hfn := (if_neg c_2).symm.trans hfn
      refine lv_aload_n hx hb dX12_isFree_12 rfl (lv_at hl 1 rfl) ?_
      refine va_get (D := (dC, dI)) (ci := 12) (v := .ref (a0 27)) (C := RX12) (T := TX12) (N := 67) hx hb hts zn_X12_isFree_X12 hown hK hP 0 rfl rfl 27 (of_decide_eq_true rfl) (hts (.fieldLink RX12 93 "ShortEnoughModel" "groupOf" "[I") zw_X12_isFree_1048) (fun _ h9 => h9) rfl dX12_isFree_13 ?_
      refine lv_iload_n hx hb dX12_isFree_16 rfl (lv_at hl 0 rfl) ?_
      obtain ⟨h_3, hfn⟩ := zg_s hfn
      refine va_iald hx hb hK hP 2 1 rfl rfl h_3 dX12_isFree_17 ?_
      refine lv_iload_n hx hb dX12_isFree_18 rfl (lv_at hl 2 rfl) ?_
      refine lv_icmp_ne (tgt := 34) hx hb dX12_isFree_19 (of_decide_eq_true rfl) (fun c_4 => ?_) (fun c_4 => ?_)
      · have hfn := (if_neg c_4).symm.trans hfn
        refine lv_iinc (v := (s_1 + 1)) (lv' := [(2, .int (s_1 + 1)), (0, .ref h0), (1, .int p1)]) hx hb dX12_isFree_34 hl (k := 0) rfl rfl (of_decide_eq_true rfl) rfl (fun ls hl => ?_)
        refine lv_goto (tgt := 2) hx hb dX12_isFree_37 (of_decide_eq_true rfl) ?_
        exact ih_1 (s_1 + 1) H locs ls hfn hP hD hS (lv_sub hl [0, 1, 2] rfl)
      have hfn := (if_pos c_4).symm.trans hfn
      refine lv_aload_n hx hb dX12_isFree_22 rfl (lv_at hl 1 rfl) ?_
      refine va_get (D := (dC, dI)) (ci := 12) (v := .ref (a0 25)) (C := RX12) (T := TX12) (N := 67) hx hb hts zn_X12_isFree_X12 hown hK hP 0 rfl rfl 25 (of_decide_eq_true rfl) (hts (.fieldLink RX12 87 "ShortEnoughModel" "fixedAs" "[I") zw_X12_isFree_1049) (fun _ h9 => h9) rfl dX12_isFree_23 ?_
      refine lv_iload_n hx hb dX12_isFree_26 rfl (lv_at hl 0 rfl) ?_
      refine va_iald hx hb hK hP 3 2 rfl rfl h_3 dX12_isFree_27 ?_
      refine lv_iconst (v := (-1)) hx hb dX12_isFree_28 zci_m1 ?_
      refine lv_icmp_eq (tgt := 34) hx hb dX12_isFree_29 (of_decide_eq_true rfl) (fun c_5 => ?_) (fun c_5 => ?_)
      · have hfn := (if_pos c_5).symm.trans hfn
        refine lv_iinc (v := (s_1 + 1)) (lv' := [(2, .int (s_1 + 1)), (0, .ref h0), (1, .int p1)]) hx hb dX12_isFree_34 hl (k := 0) rfl rfl (of_decide_eq_true rfl) rfl (fun ls hl => ?_)
        refine lv_goto (tgt := 2) hx hb dX12_isFree_37 (of_decide_eq_true rfl) ?_
        exact ih_1 (s_1 + 1) H locs ls hfn hP hD hS (lv_sub hl [0, 1, 2] rfl)
      have hfn := (if_neg c_5).symm.trans hfn
      refine lv_iconst (v := 0) hx hb dX12_isFree_32 zci_0 ?_
      have ho := Option.some.inj hfn
      subst ho
      exact zrz hx hb hr rfl hK hP hD hS hQ ⟨rfl, zB0⟩ hlocks dX12_isFree_33
  exact lp_1 _ 0 s.heap [] ls hfn hP hD hS (lv_sub hl [0, 1, 2] rfl)
theorem zn_X12_laysFree_X12 : ∀ w ∈ wsX120, w ∈ wsX12_laysFree := fun _ h => List.mem_cons_of_mem _ (List.mem_append_right _ h)
theorem zw_X12_laysFree_1051 : Cond.fieldLink RX12 103 "ShortEnoughModel" "freeMany" "I" ∈ wsX12_laysFree := List.mem_of_getElem? (i := 1) (by decide +kernel)
theorem zw_X12_laysFree_1052 : Cond.fieldLink RX12 62 "ShortEnoughModel" "numbers" "[I" ∈ wsX12_laysFree := List.mem_of_getElem? (i := 2) (by decide +kernel)
theorem zw_X12_laysFree_1053 : Cond.fieldLink RX12 93 "ShortEnoughModel" "groupOf" "[I" ∈ wsX12_laysFree := List.mem_of_getElem? (i := 3) (by decide +kernel)
theorem zw_X12_laysFree_1054 : Cond.fieldLink RX12 100 "ShortEnoughModel" "free" "[I" ∈ wsX12_laysFree := List.mem_of_getElem? (i := 4) (by decide +kernel)
set_option maxHeartbeats 4000000 in
set_option maxRecDepth 100000 in
theorem zf_X12_laysFree (l : Launch) (dC : Nat → ClassId) (dI : Nat → Nat → Nat) (h0 : Nat) (a0 : Nat → Nat) (b0 : Nat → Int32) (c0 : Nat → Int64) (k1 : Nat) (f1 : Nat → Int32) (k2 : Nat) (f2 : Nat → Int32) (k3 : Nat) (f3 : Nat → Int32) (k4 : Nat) (f4 : Nat → Int32) (o : Int32 × (Nat → Int32)) (hfn : fn_X12_laysFree f1 f2 f3 f4 = some o) (sz : Nat) : zMv l yX12_laysFree wsX12_laysFree ({ frames := 1, cells := 0, slots := 0, locals := 22 }) (dC, dI) vwCl [.ref h0] [(h0, .inr (12, zO a0 b0 c0)), zVi (a0 17) k1 2 f1, zVi (a0 27) k2 28 f2, zVi (a0 25) k3 28 f3, zVi (a0 29) k4 14 f4] [(k1, .int), (k2, .int), (k3, .int), (k4, .int)] (fun _ => True) [(h0, .inr (12, zO a0 (zI b0 30 o.1) c0)), zVi (a0 17) k1 2 f1, zVi (a0 27) k2 28 f2, zVi (a0 25) k3 28 f3, zVi (a0 29) k4 14 o.2] [(k1, .int), (k2, .int), (k3, .int), (k4, .int)] sz := by
  refine zgov (cc := cX12_laysFree) (maxL := 2) (ret := none) (C0 := RX12) (lv0 := [(0, .ref h0)]) zpl_X12 rfl rfl rfl (Nat.le_of_ble_eq_true rfl) ?_
  intro p e s m below meth c A ls Q hx hb hr hts hown hlocks hml hP hK hD hA hS hl hQ
  unfold fn_X12_laysFree at hfn
  refine lv_aload_n hx hb dX12_laysFree_0 rfl (lv_at hl 0 rfl) ?_
  refine lv_iconst (v := 0) hx hb dX12_laysFree_1 zci_0 ?_
  refine va_put (D := (dC, dI)) (ci := 12) (v := .int 0) (ty := .int) (C := RX12) (T := TX12) (N := 67) hx hb hts zn_X12_laysFree_X12 tyX12 tyX12_ok nmX12 hown hK hP hD hS 0 rfl rfl 30 (of_decide_eq_true rfl) (hts (.fieldLink RX12 103 "ShortEnoughModel" "freeMany" "I") zw_X12_laysFree_1051) (fun _ h9 => h9) rfl (tyX12_ok 30 (of_decide_eq_true rfl)) rfl rfl (Nat.le_of_ble_eq_true rfl) dX12_laysFree_2 (fun H locs hP hD hS => ?_)
  have hP : va_P (dC, dI) vwCl [(h0, .inr (12, zO a0 (zI b0 30 0) c0)), zVi (a0 17) k1 2 f1, zVi (a0 27) k2 28 f2, zVi (a0 25) k3 28 f3, zVi (a0 29) k4 14 f4] H := hP
  have hD := zDW hD hP rfl
  refine lv_iconst (v := 0) hx hb dX12_laysFree_5 zci_0 ?_
  refine lv_istore_n (lv' := [(1, .int 0), (0, .ref h0)]) hx hb dX12_laysFree_6 rfl hl (of_decide_eq_true rfl) rfl (fun ls hl => ?_)
  obtain ⟨bd_1, ebd_1, hfn⟩ := zl_g hfn
  have lp_1 : ∀ (n : Nat) (s_1 : Int32 × Int32 × (Nat → Int32)) (H : Heap) (locs : List Loc) (ls : Array Slot), zl bd_1 n s_1 = some o → va_P (dC, dI) vwCl [(h0, .inr (12, zO a0 (zI b0 30 s_1.2.1) c0)), zVi (a0 17) k1 2 f1, zVi (a0 27) k2 28 f2, zVi (a0 25) k3 28 f3, zVi (a0 29) k4 14 s_1.2.2] H → va_D A [(h0, .inr (12, zO a0 (zI b0 30 s_1.2.1) c0)), zVi (a0 17) k1 2 f1, zVi (a0 27) k2 28 f2, zVi (a0 25) k3 28 f3, zVi (a0 29) k4 14 s_1.2.2] → va_S A s.heap H locs → lv_has ls 2 [(1, .int s_1.1), (0, .ref h0)] → W p l e (headSpec wsX12_laysFree ({ frames := 1, cells := 0, slots := 0, locals := 22 })).room s m ([.ref h0] : List Value).toArray below meth c H locs 0 0 Q (F0 m 7 ls []) := by
    intro n
    induction n with
    | zero => exact fun _ _ _ _ hfn => (zl_0 hfn).elim
    | succ n ih_1 =>
      intro s_1 H locs ls hfn hP hD hS hl
      have hfn := zl_s ebd_1 hfn
      refine lv_iload_n hx hb dX12_laysFree_7 rfl (lv_at hl 0 rfl) ?_
      refine lv_aload_n hx hb dX12_laysFree_8 rfl (lv_at hl 1 rfl) ?_
      refine va_get (D := (dC, dI)) (ci := 12) (v := .ref (a0 17)) (C := RX12) (T := TX12) (N := 67) hx hb hts zn_X12_laysFree_X12 hown hK hP 0 rfl rfl 17 (of_decide_eq_true rfl) (hts (.fieldLink RX12 62 "ShortEnoughModel" "numbers" "[I") zw_X12_laysFree_1052) (fun _ h9 => h9) rfl dX12_laysFree_9 ?_
      refine lv_iconst (v := 0) hx hb dX12_laysFree_12 zci_0 ?_
      refine va_iald hx hb hK hP 1 0 rfl rfl (zv_in (by decide +kernel)) dX12_laysFree_13 ?_
      refine lv_icmp_ge (tgt := 64) hx hb dX12_laysFree_14 (of_decide_eq_true rfl) (fun c_2 => ?_) (fun c_2 => ?_)
      · have hfn := (if_pos c_2).symm.trans hfn
        have ho := Option.some.inj hfn
        subst ho
        exact zrv hx hb hr hK hP hD hS hQ trivial hlocks dX12_laysFree_64
      have hfn := (if_neg c_2).symm.trans hfn
      refine lv_aload_n hx hb dX12_laysFree_17 rfl (lv_at hl 1 rfl) ?_
      refine va_get (D := (dC, dI)) (ci := 12) (v := .ref (a0 27)) (C := RX12) (T := TX12) (N := 67) hx hb hts zn_X12_laysFree_X12 hown hK hP 0 rfl rfl 27 (of_decide_eq_true rfl) (hts (.fieldLink RX12 93 "ShortEnoughModel" "groupOf" "[I") zw_X12_laysFree_1053) (fun _ h9 => h9) rfl dX12_laysFree_18 ?_
      refine lv_iload_n hx hb dX12_laysFree_21 rfl (lv_at hl 0 rfl) ?_
      obtain ⟨h_3, hfn⟩ := zg_s hfn
      refine va_iald hx hb hK hP 2 1 rfl rfl h_3 dX12_laysFree_22 ?_
      refine lv_iload_n hx hb dX12_laysFree_23 rfl (lv_at hl 0 rfl) ?_
      refine lv_icmp_ne (tgt := 58) hx hb dX12_laysFree_24 (of_decide_eq_true rfl) (fun c_4 => ?_) (fun c_4 => ?_)
      · have hfn := (if_neg c_4).symm.trans hfn
        refine lv_iinc (v := (s_1.1 + 1)) (lv' := [(1, .int (s_1.1 + 1)), (0, .ref h0)]) hx hb dX12_laysFree_58 hl (k := 0) rfl rfl (of_decide_eq_true rfl) rfl (fun ls hl => ?_)
        refine lv_goto (tgt := 7) hx hb dX12_laysFree_61 (of_decide_eq_true rfl) ?_
        exact ih_1 ((s_1.1 + 1), s_1.2.1, s_1.2.2) H locs ls hfn hP hD hS (lv_sub hl [0, 1] rfl)
      have hfn := (if_pos c_4).symm.trans hfn
      refine lv_aload_n hx hb dX12_laysFree_27 rfl (lv_at hl 1 rfl) ?_
      refine lv_iload_n hx hb dX12_laysFree_28 rfl (lv_at hl 0 rfl) ?_
      obtain ⟨o_5, hqo_5, hfn⟩ := zb_s hfn
      refine zcVb (ci := 12) (rest := []) (pc' := 32) (ws' := [(h0, .inr (12, zO a0 (zI b0 30 s_1.2.1) c0)), zVi (a0 17) k1 2 f1, zVi (a0 27) k2 28 f2, zVi (a0 25) k3 28 f3, zVi (a0 29) k4 14 s_1.2.2]) hP hK hD hS hA ⟨hx, hb, hml, hown, hts⟩ (zf_X12_isFree l dC dI h0 s_1.1 a0 (zI b0 30 s_1.2.1) c0 k1 f1 k2 f2 k3 f3 o_5 hqo_5 H.size) (cwV 1 hts gX12_laysFree_X12_isFree rfl rfl rfl zhd_X12_isFree ⟨Nat.le_of_ble_eq_true rfl, Nat.le_of_ble_eq_true rfl⟩) [0, 1, 2, 3] rfl (of_decide_eq_true rfl) [0, 1, 2] rfl rfl rfl rfl hl.1 rfl (Nat.le_of_ble_eq_true rfl) dX12_laysFree_29 ⟨Nat.le_of_ble_eq_true rfl, Nat.le_of_ble_eq_true rfl⟩ [some 0, some 1, some 2, some 3] (of_decide_eq_true rfl) (of_decide_eq_true rfl) rfl rfl rfl (fun H locs hw_8n hP hD hS => ?_)
      refine lv_if_ne (tgt := 38) hx hb dX12_laysFree_32 (of_decide_eq_true rfl) (fun c_9 => ?_) (fun c_9 => ?_)
      · have hfn := (if_neg c_9).symm.trans hfn
        refine lv_aload_n hx hb dX12_laysFree_38 rfl (lv_at hl 1 rfl) ?_
        refine va_get (D := (dC, dI)) (ci := 12) (v := .ref (a0 29)) (C := RX12) (T := TX12) (N := 67) hx hb hts zn_X12_laysFree_X12 hown hK hP 0 rfl rfl 29 (of_decide_eq_true rfl) (hts (.fieldLink RX12 100 "ShortEnoughModel" "free" "[I") zw_X12_laysFree_1054) (fun _ h9 => h9) rfl dX12_laysFree_39 ?_
        refine lv_aload_n hx hb dX12_laysFree_42 rfl (lv_at hl 1 rfl) ?_
        refine va_get (D := (dC, dI)) (ci := 12) (v := .int s_1.2.1) (C := RX12) (T := TX12) (N := 67) hx hb hts zn_X12_laysFree_X12 hown hK hP 0 rfl rfl 30 (of_decide_eq_true rfl) (hts (.fieldLink RX12 103 "ShortEnoughModel" "freeMany" "I") zw_X12_laysFree_1051) (fun _ h9 => h9) rfl dX12_laysFree_43 ?_
        refine lv_iload_n hx hb dX12_laysFree_46 rfl (lv_at hl 0 rfl) ?_
        obtain ⟨h_10, hfn⟩ := zg_s hfn
        refine va_iast hx hb hK hP hD hS 4 3 rfl rfl h_10 dX12_laysFree_47 (fun H locs hP hD hS => ?_)
        have hP : va_P (dC, dI) vwCl [(h0, .inr (12, zO a0 (zI b0 30 s_1.2.1) c0)), zVi (a0 17) k1 2 f1, zVi (a0 27) k2 28 f2, zVi (a0 25) k3 28 f3, zVi (a0 29) k4 14 (upd s_1.2.2 s_1.2.1.toNatClampNeg s_1.1)] H := hP
        have hD := zDW hD hP rfl
        refine lv_aload_n hx hb dX12_laysFree_48 rfl (lv_at hl 1 rfl) ?_
        refine lv_dup hx hb dX12_laysFree_49 rfl ?_
        refine va_get (D := (dC, dI)) (ci := 12) (v := .int s_1.2.1) (C := RX12) (T := TX12) (N := 67) hx hb hts zn_X12_laysFree_X12 hown hK hP 0 rfl rfl 30 (of_decide_eq_true rfl) (hts (.fieldLink RX12 103 "ShortEnoughModel" "freeMany" "I") zw_X12_laysFree_1051) (fun _ h9 => h9) rfl dX12_laysFree_50 ?_
        refine lv_iconst (v := 1) hx hb dX12_laysFree_53 zci_1 ?_
        refine lv_iadd hx hb dX12_laysFree_54 ?_
        refine va_put (D := (dC, dI)) (ci := 12) (v := .int (s_1.2.1 + 1)) (ty := .int) (C := RX12) (T := TX12) (N := 67) hx hb hts zn_X12_laysFree_X12 tyX12 tyX12_ok nmX12 hown hK hP hD hS 0 rfl rfl 30 (of_decide_eq_true rfl) (hts (.fieldLink RX12 103 "ShortEnoughModel" "freeMany" "I") zw_X12_laysFree_1051) (fun _ h9 => h9) rfl (tyX12_ok 30 (of_decide_eq_true rfl)) rfl rfl (Nat.le_of_ble_eq_true rfl) dX12_laysFree_55 (fun H locs hP hD hS => ?_)
        have hP : va_P (dC, dI) vwCl [(h0, .inr (12, zO a0 (zI b0 30 (s_1.2.1 + 1)) c0)), zVi (a0 17) k1 2 f1, zVi (a0 27) k2 28 f2, zVi (a0 25) k3 28 f3, zVi (a0 29) k4 14 (upd s_1.2.2 s_1.2.1.toNatClampNeg s_1.1)] H := hP
        have hD := zDW hD hP rfl
        refine lv_iinc (v := (s_1.1 + 1)) (lv' := [(1, .int (s_1.1 + 1)), (0, .ref h0)]) hx hb dX12_laysFree_58 hl (k := 0) rfl rfl (of_decide_eq_true rfl) rfl (fun ls hl => ?_)
        refine lv_goto (tgt := 7) hx hb dX12_laysFree_61 (of_decide_eq_true rfl) ?_
        exact ih_1 ((s_1.1 + 1), (s_1.2.1 + 1), (upd s_1.2.2 s_1.2.1.toNatClampNeg s_1.1)) H locs ls hfn hP hD hS (lv_sub hl [0, 1] rfl)
      have hfn := (if_pos c_9).symm.trans hfn
      refine lv_goto (tgt := 58) hx hb dX12_laysFree_35 (of_decide_eq_true rfl) ?_
      refine lv_iinc (v := (s_1.1 + 1)) (lv' := [(1, .int (s_1.1 + 1)), (0, .ref h0)]) hx hb dX12_laysFree_58 hl (k := 0) rfl rfl (of_decide_eq_true rfl) rfl (fun ls hl => ?_)
      refine lv_goto (tgt := 7) hx hb dX12_laysFree_61 (of_decide_eq_true rfl) ?_
      exact ih_1 ((s_1.1 + 1), s_1.2.1, s_1.2.2) H locs ls hfn hP hD hS (lv_sub hl [0, 1] rfl)
  exact lp_1 _ (0, 0, f4) H locs ls hfn hP hD hS (lv_sub hl [0, 1] rfl)
theorem zn_X12_has_X12 : ∀ w ∈ wsX120, w ∈ wsX12_has := fun _ h => List.mem_cons_of_mem _ (List.mem_append_right _ h)
theorem zw_X12_has_1056 : Cond.fieldLink RX12 62 "ShortEnoughModel" "numbers" "[I" ∈ wsX12_has := List.mem_of_getElem? (i := 1) (by decide +kernel)
theorem zw_X12_has_1057 : Cond.fieldLink RX12 47 "ShortEnoughModel" "formats" "[I" ∈ wsX12_has := List.mem_of_getElem? (i := 2) (by decide +kernel)
theorem zw_X12_has_1058 : Cond.fieldLink RX12 103 "ShortEnoughModel" "freeMany" "I" ∈ wsX12_has := List.mem_of_getElem? (i := 3) (by decide +kernel)
theorem zw_X12_has_1059 : Cond.fieldLink RX12 84 "ShortEnoughModel" "castCost" "[I" ∈ wsX12_has := List.mem_of_getElem? (i := 4) (by decide +kernel)
theorem zw_X12_has_1060 : Cond.fieldLink RX12 207 "ShortEnoughModel" "seedNow" "I" ∈ wsX12_has := List.mem_of_getElem? (i := 5) (by decide +kernel)
set_option maxHeartbeats 4000000 in
set_option maxRecDepth 100000 in
theorem zf_X12_has (l : Launch) (dC : Nat → ClassId) (dI : Nat → Nat → Nat) (h0 : Nat) (p1 : Int32) (a0 : Nat → Nat) (b0 : Nat → Int32) (c0 : Nat → Int64) (k1 : Nat) (f1 : Nat → Int32) (k2 : Nat) (f2 : Nat → Int32) (k3 : Nat) (f3 : Nat → Int32) (k4 : Nat) (f4 : Nat → Int32) (k5 : Nat) (f5 : Nat → Int32) (k6 : Nat) (f6 : Nat → Int32) (k7 : Nat) (f7 : Nat → Int32) (k8 : Nat) (f8 : Nat → Int32) (o : Int32 × Int32 × (Nat → Int32)) (hfn : fn_X12_has p1 (b0 64) f1 f2 f3 f4 f5 f6 f7 f8 = some o) (sz : Nat) : zMi l yX12_has wsX12_has ({ frames := 2, cells := 0, slots := 0, locals := 43 }) (dC, dI) vwCl [.ref h0, .int p1] [(h0, .inr (12, zO a0 b0 c0)), zVi (a0 17) k1 2 f1, zVi (a0 27) k2 28 f2, zVi (a0 25) k3 28 f3, zVi (a0 29) k4 14 f4, zVi (a0 12) k5 2 f5, zVi (a0 19) k6 28 f6, zVi (a0 26) k7 28 f7, zVi (a0 24) k8 2 f8] [(k1, .int), (k2, .int), (k3, .int), (k4, .int), (k5, .int), (k6, .int), (k7, .int), (k8, .int)] (fun r _ => r = o.1) [(h0, .inr (12, zO a0 (zI b0 30 o.2.1) c0)), zVi (a0 17) k1 2 f1, zVi (a0 27) k2 28 f2, zVi (a0 25) k3 28 f3, zVi (a0 29) k4 14 o.2.2, zVi (a0 12) k5 2 f5, zVi (a0 19) k6 28 f6, zVi (a0 26) k7 28 f7, zVi (a0 24) k8 2 f8] [(k1, .int), (k2, .int), (k3, .int), (k4, .int), (k5, .int), (k6, .int), (k7, .int), (k8, .int)] sz := by
  refine zgoi (cc := cX12_has) (maxL := 2) (ret := (some .int)) (C0 := RX12) (lv0 := [(0, .ref h0), (1, .int p1)]) zpl_X12 rfl rfl rfl (Nat.le_of_ble_eq_true rfl) ?_
  intro p e s m below meth c A ls Q hx hb hr hts hown hlocks hml hP hK hD hA hS hl hQ
  unfold fn_X12_has at hfn
  refine lv_aload_n hx hb dX12_has_0 rfl (lv_at hl 0 rfl) ?_
  obtain ⟨o_1, hqo_1, hfn⟩ := zb_s hfn
  refine zcVv (ci := 12) (rest := []) (pc' := 4) (ws' := [(h0, .inr (12, zO a0 (zI b0 30 o_1.1) c0)), zVi (a0 17) k1 2 f1, zVi (a0 27) k2 28 f2, zVi (a0 25) k3 28 f3, zVi (a0 29) k4 14 o_1.2, zVi (a0 12) k5 2 f5, zVi (a0 19) k6 28 f6, zVi (a0 26) k7 28 f7, zVi (a0 24) k8 2 f8]) hP hK hD hS hA ⟨hx, hb, hml, hown, hts⟩ (zf_X12_laysFree l dC dI h0 a0 b0 c0 k1 f1 k2 f2 k3 f3 k4 f4 o_1 hqo_1 s.heap.size) (cwV 0 hts gX12_has_X12_laysFree rfl rfl rfl zhd_X12_laysFree ⟨Nat.le_of_ble_eq_true rfl, Nat.le_of_ble_eq_true rfl⟩) [0, 1, 2, 3, 4] rfl (of_decide_eq_true rfl) [0, 1, 2, 3] rfl rfl rfl rfl hl.1 rfl (Nat.le_of_ble_eq_true rfl) dX12_has_1 ⟨Nat.le_of_ble_eq_true rfl, Nat.le_of_ble_eq_true rfl⟩ [some 0, some 1, some 2, some 3, some 4] (of_decide_eq_true rfl) (of_decide_eq_true rfl) rfl rfl rfl (fun H locs hP hD hS => ?_)
  refine lv_iload_n hx hb dX12_has_4 rfl (lv_at hl 1 rfl) ?_
  by_cases c_5 : p1 = 0
  · have hfn := (if_pos c_5).symm.trans hfn
    refine W.eq (g2 := F0 m 5 ls [.int 0]) (by rw [c_5]) ?_
    refine lv_tableIn (tgt := 52) (off := 47) hx hb dX12_has_5 (by decide +kernel) (by decide +kernel) (by decide +kernel) (of_decide_eq_true rfl) ?_
    refine lv_aload_n hx hb dX12_has_52 rfl (lv_at hl 0 rfl) ?_
    refine va_get (D := (dC, dI)) (ci := 12) (v := .ref (a0 17)) (C := RX12) (T := TX12) (N := 67) hx hb hts zn_X12_has_X12 hown hK hP 0 rfl rfl 17 (of_decide_eq_true rfl) (hts (.fieldLink RX12 62 "ShortEnoughModel" "numbers" "[I") zw_X12_has_1056) (fun _ h9 => h9) rfl dX12_has_53 ?_
    refine lv_iconst (v := 0) hx hb dX12_has_56 zci_0 ?_
    refine va_iald hx hb hK hP 1 0 rfl rfl (zv_in (by decide +kernel)) dX12_has_57 ?_
    have ho := Option.some.inj hfn
    subst ho
    exact zri hx hb hr hK hP hD hS hQ rfl hlocks dX12_has_58
  have hfn := (if_neg c_5).symm.trans hfn
  have oc_5 := zk_ne rfl (by decide +kernel : (0 : Int32).toInt = 0) c_5
  by_cases c_6 : p1 = 1
  · have hfn := (if_pos c_6).symm.trans hfn
    refine W.eq (g2 := F0 m 5 ls [.int 1]) (by rw [c_6]) ?_
    refine lv_tableIn (tgt := 59) (off := 54) hx hb dX12_has_5 (by decide +kernel) (by decide +kernel) (by decide +kernel) (of_decide_eq_true rfl) ?_
    refine lv_aload_n hx hb dX12_has_59 rfl (lv_at hl 0 rfl) ?_
    refine va_get (D := (dC, dI)) (ci := 12) (v := .ref (a0 12)) (C := RX12) (T := TX12) (N := 67) hx hb hts zn_X12_has_X12 hown hK hP 0 rfl rfl 12 (of_decide_eq_true rfl) (hts (.fieldLink RX12 47 "ShortEnoughModel" "formats" "[I") zw_X12_has_1057) (fun _ h9 => h9) rfl dX12_has_60 ?_
    refine lv_iconst (v := 0) hx hb dX12_has_63 zci_0 ?_
    refine va_iald hx hb hK hP 5 4 rfl rfl (zv_in (by decide +kernel)) dX12_has_64 ?_
    have ho := Option.some.inj hfn
    subst ho
    exact zri hx hb hr hK hP hD hS hQ rfl hlocks dX12_has_65
  have hfn := (if_neg c_6).symm.trans hfn
  have oc_6 := zk_ne rfl (by decide +kernel : (1 : Int32).toInt = 1) c_6
  by_cases c_7 : p1 = 2
  · have hfn := (if_pos c_7).symm.trans hfn
    refine W.eq (g2 := F0 m 5 ls [.int 2]) (by rw [c_7]) ?_
    refine lv_tableIn (tgt := 66) (off := 61) hx hb dX12_has_5 (by decide +kernel) (by decide +kernel) (by decide +kernel) (of_decide_eq_true rfl) ?_
    refine lv_aload_n hx hb dX12_has_66 rfl (lv_at hl 0 rfl) ?_
    obtain ⟨o_8, hqo_8, hfn⟩ := zb_s hfn
    refine zcVi (ci := 12) (rest := []) (pc' := 70) (ws' := [(h0, .inr (12, zO a0 (zI b0 30 o_1.1) c0)), zVi (a0 17) k1 2 f1, zVi (a0 27) k2 28 f2, zVi (a0 25) k3 28 f3, zVi (a0 29) k4 14 o_1.2, zVi (a0 12) k5 2 f5, zVi (a0 19) k6 28 f6, zVi (a0 26) k7 28 f7, zVi (a0 24) k8 2 f8]) hP hK hD hS hA ⟨hx, hb, hml, hown, hts⟩ (zf_X12_inputs l dC dI h0 a0 (zI b0 30 o_1.1) c0 k1 f1 k6 f6 o_8 hqo_8 H.size) (cwV 0 hts gX12_has_X12_inputs rfl rfl rfl zhd_X12_inputs ⟨Nat.le_of_ble_eq_true rfl, Nat.le_of_ble_eq_true rfl⟩) [0, 1, 6] rfl (of_decide_eq_true rfl) [0, 5] rfl rfl rfl rfl hl.1 rfl (Nat.le_of_ble_eq_true rfl) dX12_has_67 ⟨Nat.le_of_ble_eq_true rfl, Nat.le_of_ble_eq_true rfl⟩ [some 0, some 1, none, none, none, none, some 2] (of_decide_eq_true rfl) (of_decide_eq_true rfl) rfl rfl rfl (fun H locs hP hD hS => ?_)
    have ho := Option.some.inj hfn
    subst ho
    exact zri hx hb hr hK hP hD hS hQ rfl hlocks dX12_has_70
  have hfn := (if_neg c_7).symm.trans hfn
  have oc_7 := zk_ne rfl (by decide +kernel : (2 : Int32).toInt = 2) c_7
  by_cases c_12 : p1 = 3
  · have hfn := (if_pos c_12).symm.trans hfn
    refine W.eq (g2 := F0 m 5 ls [.int 3]) (by rw [c_12]) ?_
    refine lv_tableIn (tgt := 71) (off := 66) hx hb dX12_has_5 (by decide +kernel) (by decide +kernel) (by decide +kernel) (of_decide_eq_true rfl) ?_
    refine lv_aload_n hx hb dX12_has_71 rfl (lv_at hl 0 rfl) ?_
    obtain ⟨o_13, hqo_13, hfn⟩ := zb_s hfn
    refine zcVi (ci := 12) (rest := []) (pc' := 75) (ws' := [(h0, .inr (12, zO a0 (zI b0 30 o_1.1) c0)), zVi (a0 17) k1 2 f1, zVi (a0 27) k2 28 f2, zVi (a0 25) k3 28 f3, zVi (a0 29) k4 14 o_1.2, zVi (a0 12) k5 2 f5, zVi (a0 19) k6 28 f6, zVi (a0 26) k7 28 f7, zVi (a0 24) k8 2 f8]) hP hK hD hS hA ⟨hx, hb, hml, hown, hts⟩ (zf_X12_answers l dC dI h0 a0 (zI b0 30 o_1.1) c0 k1 f1 k7 f7 o_13 hqo_13 H.size) (cwV 0 hts gX12_has_X12_answers rfl rfl rfl zhd_X12_answers ⟨Nat.le_of_ble_eq_true rfl, Nat.le_of_ble_eq_true rfl⟩) [0, 1, 7] rfl (of_decide_eq_true rfl) [0, 6] rfl rfl rfl rfl hl.1 rfl (Nat.le_of_ble_eq_true rfl) dX12_has_72 ⟨Nat.le_of_ble_eq_true rfl, Nat.le_of_ble_eq_true rfl⟩ [some 0, some 1, none, none, none, none, none, some 2] (of_decide_eq_true rfl) (of_decide_eq_true rfl) rfl rfl rfl (fun H locs hP hD hS => ?_)
    have ho := Option.some.inj hfn
    subst ho
    exact zri hx hb hr hK hP hD hS hQ rfl hlocks dX12_has_75
  have hfn := (if_neg c_12).symm.trans hfn
  have oc_12 := zk_ne rfl (by decide +kernel : (3 : Int32).toInt = 3) c_12
  by_cases c_17 : p1 = 4
  · have hfn := (if_pos c_17).symm.trans hfn
    refine W.eq (g2 := F0 m 5 ls [.int 4]) (by rw [c_17]) ?_
    refine lv_tableIn (tgt := 76) (off := 71) hx hb dX12_has_5 (by decide +kernel) (by decide +kernel) (by decide +kernel) (of_decide_eq_true rfl) ?_
    refine lv_aload_n hx hb dX12_has_76 rfl (lv_at hl 0 rfl) ?_
    obtain ⟨o_18, hqo_18, hfn⟩ := zb_s hfn
    refine zcVi (ci := 12) (rest := []) (pc' := 80) (ws' := [(h0, .inr (12, zO a0 (zI b0 30 o_1.1) c0)), zVi (a0 17) k1 2 f1, zVi (a0 27) k2 28 f2, zVi (a0 25) k3 28 f3, zVi (a0 29) k4 14 o_1.2, zVi (a0 12) k5 2 f5, zVi (a0 19) k6 28 f6, zVi (a0 26) k7 28 f7, zVi (a0 24) k8 2 f8]) hP hK hD hS hA ⟨hx, hb, hml, hown, hts⟩ (zf_X12_groups l dC dI h0 a0 (zI b0 30 o_1.1) c0 k1 f1 k2 f2 o_18 hqo_18 H.size) (cwV 0 hts gX12_has_X12_groups rfl rfl rfl zhd_X12_groups ⟨Nat.le_of_ble_eq_true rfl, Nat.le_of_ble_eq_true rfl⟩) [0, 1, 2] rfl (of_decide_eq_true rfl) [0, 1] rfl rfl rfl rfl hl.1 rfl (Nat.le_of_ble_eq_true rfl) dX12_has_77 ⟨Nat.le_of_ble_eq_true rfl, Nat.le_of_ble_eq_true rfl⟩ [some 0, some 1, some 2] (of_decide_eq_true rfl) (of_decide_eq_true rfl) rfl rfl rfl (fun H locs hP hD hS => ?_)
    have ho := Option.some.inj hfn
    subst ho
    exact zri hx hb hr hK hP hD hS hQ rfl hlocks dX12_has_80
  have hfn := (if_neg c_17).symm.trans hfn
  have oc_17 := zk_ne rfl (by decide +kernel : (4 : Int32).toInt = 4) c_17
  by_cases c_22 : p1 = 5
  · have hfn := (if_pos c_22).symm.trans hfn
    refine W.eq (g2 := F0 m 5 ls [.int 5]) (by rw [c_22]) ?_
    refine lv_tableIn (tgt := 81) (off := 76) hx hb dX12_has_5 (by decide +kernel) (by decide +kernel) (by decide +kernel) (of_decide_eq_true rfl) ?_
    refine lv_aload_n hx hb dX12_has_81 rfl (lv_at hl 0 rfl) ?_
    refine va_get (D := (dC, dI)) (ci := 12) (v := .int o_1.1) (C := RX12) (T := TX12) (N := 67) hx hb hts zn_X12_has_X12 hown hK hP 0 rfl rfl 30 (of_decide_eq_true rfl) (hts (.fieldLink RX12 103 "ShortEnoughModel" "freeMany" "I") zw_X12_has_1058) (fun _ h9 => h9) rfl dX12_has_82 ?_
    have ho := Option.some.inj hfn
    subst ho
    exact zri hx hb hr hK hP hD hS hQ rfl hlocks dX12_has_85
  have hfn := (if_neg c_22).symm.trans hfn
  have oc_22 := zk_ne rfl (by decide +kernel : (5 : Int32).toInt = 5) c_22
  by_cases c_23 : p1 = 6
  · have hfn := (if_pos c_23).symm.trans hfn
    refine W.eq (g2 := F0 m 5 ls [.int 6]) (by rw [c_23]) ?_
    refine lv_tableIn (tgt := 86) (off := 81) hx hb dX12_has_5 (by decide +kernel) (by decide +kernel) (by decide +kernel) (of_decide_eq_true rfl) ?_
    refine lv_aload_n hx hb dX12_has_86 rfl (lv_at hl 0 rfl) ?_
    refine va_get (D := (dC, dI)) (ci := 12) (v := .ref (a0 17)) (C := RX12) (T := TX12) (N := 67) hx hb hts zn_X12_has_X12 hown hK hP 0 rfl rfl 17 (of_decide_eq_true rfl) (hts (.fieldLink RX12 62 "ShortEnoughModel" "numbers" "[I") zw_X12_has_1056) (fun _ h9 => h9) rfl dX12_has_87 ?_
    refine lv_iconst (v := 0) hx hb dX12_has_90 zci_0 ?_
    refine va_iald hx hb hK hP 1 0 rfl rfl (zv_in (by decide +kernel)) dX12_has_91 ?_
    refine lv_if_ne (tgt := 99) hx hb dX12_has_92 (of_decide_eq_true rfl) (fun c_24 => ?_) (fun c_24 => ?_)
    · have hfn := (if_neg c_24).symm.trans hfn
      refine lv_aload_n hx hb dX12_has_99 rfl (lv_at hl 0 rfl) ?_
      refine va_get (D := (dC, dI)) (ci := 12) (v := .ref (a0 24)) (C := RX12) (T := TX12) (N := 67) hx hb hts zn_X12_has_X12 hown hK hP 0 rfl rfl 24 (of_decide_eq_true rfl) (hts (.fieldLink RX12 84 "ShortEnoughModel" "castCost" "[I") zw_X12_has_1059) (fun _ h9 => h9) rfl dX12_has_100 ?_
      refine lv_iconst (v := 0) hx hb dX12_has_103 zci_0 ?_
      refine va_iald hx hb hK hP 8 7 rfl rfl (zv_in (by decide +kernel)) dX12_has_104 ?_
      have ho := Option.some.inj hfn
      subst ho
      exact zri hx hb hr hK hP hD hS hQ rfl hlocks dX12_has_105
    have hfn := (if_pos c_24).symm.trans hfn
    refine lv_iconst (v := 0) hx hb dX12_has_95 zci_0 ?_
    refine lv_goto (tgt := 105) hx hb dX12_has_96 (of_decide_eq_true rfl) ?_
    have ho := Option.some.inj hfn
    subst ho
    exact zri hx hb hr hK hP hD hS hQ rfl hlocks dX12_has_105
  have hfn := (if_neg c_23).symm.trans hfn
  have oc_23 := zk_ne rfl (by decide +kernel : (6 : Int32).toInt = 6) c_23
  by_cases c_25 : p1 = 7
  · have hfn := (if_pos c_25).symm.trans hfn
    refine W.eq (g2 := F0 m 5 ls [.int 7]) (by rw [c_25]) ?_
    refine lv_tableIn (tgt := 106) (off := 101) hx hb dX12_has_5 (by decide +kernel) (by decide +kernel) (by decide +kernel) (of_decide_eq_true rfl) ?_
    refine lv_aload_n hx hb dX12_has_106 rfl (lv_at hl 0 rfl) ?_
    refine va_get (D := (dC, dI)) (ci := 12) (v := .int (b0 64)) (C := RX12) (T := TX12) (N := 67) hx hb hts zn_X12_has_X12 hown hK hP 0 rfl rfl 64 (of_decide_eq_true rfl) (hts (.fieldLink RX12 207 "ShortEnoughModel" "seedNow" "I") zw_X12_has_1060) (fun _ h9 => h9) rfl dX12_has_107 ?_
    have ho := Option.some.inj hfn
    subst ho
    exact zri hx hb hr hK hP hD hS hQ rfl hlocks dX12_has_110
  have hfn := (if_neg c_25).symm.trans hfn
  have oc_25 := zk_ne rfl (by decide +kernel : (7 : Int32).toInt = 7) c_25
  refine lv_tableOut (tgt := 111) hx hb dX12_has_5 (by omega) (of_decide_eq_true rfl) ?_
  refine lv_iconst (v := (-1)) hx hb dX12_has_111 zci_m1 ?_
  have ho := Option.some.inj hfn
  subst ho
  exact zri hx hb hr hK hP hD hS hQ rfl hlocks dX12_has_112
theorem zw_X12_letter_1061 : Cond.constantLong RX12 376 (5) ∈ wsX12_letter := List.mem_of_getElem? (i := 1) (by decide +kernel)
theorem zn_X12_letter_X12 : ∀ w ∈ wsX120, w ∈ wsX12_letter := fun _ h => List.mem_cons_of_mem _ (List.mem_append_right _ h)
theorem zw_X12_letter_1063 : Cond.fieldLink RX12 65 "ShortEnoughModel" "numberName" "[I" ∈ wsX12_letter := List.mem_of_getElem? (i := 3) (by decide +kernel)
theorem zw_X12_letter_1064 : Cond.fieldLink RX12 50 "ShortEnoughModel" "formatName" "[I" ∈ wsX12_letter := List.mem_of_getElem? (i := 2) (by decide +kernel)
set_option maxHeartbeats 4000000 in
set_option maxRecDepth 100000 in
theorem zf_X12_letter (l : Launch) (dC : Nat → ClassId) (dI : Nat → Nat → Nat) (h0 : Nat) (p1 : Int32) (p2 : Int32) (p3 : Int32) (a0 : Nat → Nat) (b0 : Nat → Int32) (c0 : Nat → Int64) (k1 : Nat) (f1 : Nat → Int32) (k2 : Nat) (f2 : Nat → Int32) (k3 : Nat) (f3 : Nat → Int32) (k4 : Nat) (f4 : Nat → Int32) (o : Int32) (hfn : fn_X12_letter p1 p2 p3 f1 f2 f3 f4 = some o) (sz : Nat) : zMi l yX12_letter wsX12_letter ({ frames := 2, cells := 0, slots := 0, locals := 46 }) (dC, dI) vwCl [.ref h0, .int p1, .int p2, .int p3] [(h0, .inr (12, zO a0 b0 c0)), zVi (a0 17) k1 2 f1, zVi (a0 12) k2 2 f2, zVi (a0 18) k3 28 f3, zVi (a0 13) k4 8 f4] [(k1, .int), (k2, .int), (k3, .int), (k4, .int)] (fun r _ => r = o) [(h0, .inr (12, zO a0 b0 c0)), zVi (a0 17) k1 2 f1, zVi (a0 12) k2 2 f2, zVi (a0 18) k3 28 f3, zVi (a0 13) k4 8 f4] [(k1, .int), (k2, .int), (k3, .int), (k4, .int)] sz := by
  refine zgoi (cc := cX12_letter) (maxL := 5) (ret := (some .int)) (C0 := RX12) (lv0 := [(0, .ref h0), (1, .int p1), (2, .int p2), (3, .int p3)]) zpl_X12 rfl rfl rfl (Nat.le_of_ble_eq_true rfl) ?_
  intro p e s m below meth c A ls Q hx hb hr hts hown hlocks hml hP hK hD hA hS hl hQ
  unfold fn_X12_letter at hfn
  refine lv_iload_n hx hb dX12_letter_0 rfl (lv_at hl 2 rfl) ?_
  obtain ⟨j_1, ej_1, hfn⟩ := zj_g hfn
  have jp_1 : ∀ (s_1 : Int32) (H : Heap) (locs : List Loc) (ls : Array Slot), j_1 s_1 = some o → va_P (dC, dI) vwCl [(h0, .inr (12, zO a0 b0 c0)), zVi (a0 17) k1 2 f1, zVi (a0 12) k2 2 f2, zVi (a0 18) k3 28 f3, zVi (a0 13) k4 8 f4] H → va_D A [(h0, .inr (12, zO a0 b0 c0)), zVi (a0 17) k1 2 f1, zVi (a0 12) k2 2 f2, zVi (a0 18) k3 28 f3, zVi (a0 13) k4 8 f4] → va_S A s.heap H locs → lv_has ls 5 [(0, .ref h0), (1, .int p1), (2, .int p2), (3, .int p3)] → W p l e (headSpec wsX12_letter ({ frames := 2, cells := 0, slots := 0, locals := 46 })).room s m ([.ref h0, .int p1, .int p2, .int p3] : List Value).toArray below meth c H locs 0 0 Q (F0 m 17 ls [.int s_1]) := by
    intro s_1 H locs ls hfn hP hD hS hl
    have hfn := zj_s ej_1 hfn
    refine lv_istore (lv' := [(4, .int s_1), (0, .ref h0), (1, .int p1), (2, .int p2), (3, .int p3)]) hx hb dX12_letter_17 hl (of_decide_eq_true rfl) rfl (fun ls hl => ?_)
    refine lv_iload hx hb dX12_letter_19 (lv_at hl 0 rfl) ?_
    refine lv_if_eq (tgt := 36) hx hb dX12_letter_21 (of_decide_eq_true rfl) (fun c_2 => ?_) (fun c_2 => ?_)
    · have hfn := (if_pos c_2).symm.trans hfn
      refine lv_iconst (v := (-1)) hx hb dX12_letter_36 zci_m1 ?_
      have ho := Option.some.inj hfn
      subst ho
      exact zri hx hb hr hK hP hD hS hQ rfl hlocks dX12_letter_37
    have hfn := (if_neg c_2).symm.trans hfn
    refine lv_iload_n hx hb dX12_letter_24 rfl (lv_at hl 4 rfl) ?_
    refine lv_i2l (v := p3.toInt64) hx hb dX12_letter_25 rfl ?_
    refine lv_lconst (v := 0) hx hb dX12_letter_26 (by decide +kernel) ?_
    refine lv_ldc2 (v := 5) hx hb hown (hts (.constantLong RX12 376 (5)) zw_X12_letter_1061) dX12_letter_27 ?_
    obtain ⟨o_3, hqo_3, hfn⟩ := zb_s hfn
    refine zcSb (rest := []) (pc' := 33) (ws' := [(h0, .inr (12, zO a0 b0 c0)), zVi (a0 17) k1 2 f1, zVi (a0 12) k2 2 f2, zVi (a0 18) k3 28 f3, zVi (a0 13) k4 8 f4]) hP hK hD hS hA ⟨hx, hb, hml, hown, hts⟩ (zf_X12_isIn l dC dI p3.toInt64 (0 : Int64) (5 : Int64) o_3 hqo_3 H.size) (va_cwS 3 hts gX12_letter_X12_isIn rfl rfl rfl zhd_X12_isIn.2 ⟨Nat.le_of_ble_eq_true rfl, Nat.le_of_ble_eq_true rfl⟩) [] rfl (of_decide_eq_true rfl) [] rfl rfl hl.1 rfl (Nat.le_of_ble_eq_true rfl) dX12_letter_30 ⟨Nat.le_of_ble_eq_true rfl, Nat.le_of_ble_eq_true rfl⟩ [] (of_decide_eq_true rfl) (of_decide_eq_true rfl) rfl rfl rfl (fun H locs hw_6n hP hD hS => ?_)
    refine lv_if_ne (tgt := 38) hx hb dX12_letter_33 (of_decide_eq_true rfl) (fun c_7 => ?_) (fun c_7 => ?_)
    · have hfn := (if_neg c_7).symm.trans hfn
      refine lv_iload_n hx hb dX12_letter_38 rfl (lv_at hl 3 rfl) ?_
      refine lv_if_eq (tgt := 51) hx hb dX12_letter_39 (of_decide_eq_true rfl) (fun c_8 => ?_) (fun c_8 => ?_)
      · have hfn := (if_pos c_8).symm.trans hfn
        refine lv_aload_n hx hb dX12_letter_51 rfl (lv_at hl 1 rfl) ?_
        refine va_get (D := (dC, dI)) (ci := 12) (v := .ref (a0 18)) (C := RX12) (T := TX12) (N := 67) hx hb hts zn_X12_letter_X12 hown hK hP 0 rfl rfl 18 (of_decide_eq_true rfl) (hts (.fieldLink RX12 65 "ShortEnoughModel" "numberName" "[I") zw_X12_letter_1063) (fun _ h9 => h9) rfl dX12_letter_52 ?_
        refine lv_iload_n hx hb dX12_letter_55 rfl (lv_at hl 2 rfl) ?_
        obtain ⟨h_9, hfn⟩ := zg_s hfn
        refine va_iald hx hb hK hP 3 2 rfl rfl h_9 dX12_letter_56 ?_
        refine lv_iconst (v := 5) hx hb dX12_letter_57 zci_5 ?_
        refine lv_iload_n hx hb dX12_letter_58 rfl (lv_at hl 4 rfl) ?_
        refine lv_imul hx hb dX12_letter_59 ?_
        refine lv_ishr hx hb dX12_letter_60 ?_
        refine lv_bipush (v := 31) hx hb dX12_letter_61 zcb_31 ?_
        refine lv_iand hx hb dX12_letter_63 ?_
        have ho := Option.some.inj hfn
        subst ho
        exact zri hx hb hr hK hP hD hS hQ rfl hlocks dX12_letter_64
      have hfn := (if_neg c_8).symm.trans hfn
      refine lv_aload_n hx hb dX12_letter_42 rfl (lv_at hl 1 rfl) ?_
      refine va_get (D := (dC, dI)) (ci := 12) (v := .ref (a0 13)) (C := RX12) (T := TX12) (N := 67) hx hb hts zn_X12_letter_X12 hown hK hP 0 rfl rfl 13 (of_decide_eq_true rfl) (hts (.fieldLink RX12 50 "ShortEnoughModel" "formatName" "[I") zw_X12_letter_1064) (fun _ h9 => h9) rfl dX12_letter_43 ?_
      refine lv_iload_n hx hb dX12_letter_46 rfl (lv_at hl 2 rfl) ?_
      obtain ⟨h_10, hfn⟩ := zg_s hfn
      refine va_iald hx hb hK hP 4 3 rfl rfl h_10 dX12_letter_47 ?_
      refine lv_goto (tgt := 57) hx hb dX12_letter_48 (of_decide_eq_true rfl) ?_
      refine lv_iconst (v := 5) hx hb dX12_letter_57 zci_5 ?_
      refine lv_iload_n hx hb dX12_letter_58 rfl (lv_at hl 4 rfl) ?_
      refine lv_imul hx hb dX12_letter_59 ?_
      refine lv_ishr hx hb dX12_letter_60 ?_
      refine lv_bipush (v := 31) hx hb dX12_letter_61 zcb_31 ?_
      refine lv_iand hx hb dX12_letter_63 ?_
      have ho := Option.some.inj hfn
      subst ho
      exact zri hx hb hr hK hP hD hS hQ rfl hlocks dX12_letter_64
    have hfn := (if_pos c_7).symm.trans hfn
    refine lv_iconst (v := (-1)) hx hb dX12_letter_36 zci_m1 ?_
    have ho := Option.some.inj hfn
    subst ho
    exact zri hx hb hr hK hP hD hS hQ rfl hlocks dX12_letter_37
  refine lv_if_eq (tgt := 12) hx hb dX12_letter_1 (of_decide_eq_true rfl) (fun c_11 => ?_) (fun c_11 => ?_)
  · have hfn := (if_pos c_11).symm.trans hfn
    refine lv_aload_n hx hb dX12_letter_12 rfl (lv_at hl 0 rfl) ?_
    refine lv_iload_n hx hb dX12_letter_13 rfl (lv_at hl 1 rfl) ?_
    obtain ⟨o_12, hqo_12, hfn⟩ := zb_s hfn
    refine zcVb (ci := 12) (rest := []) (pc' := 17) (ws' := [(h0, .inr (12, zO a0 b0 c0)), zVi (a0 17) k1 2 f1, zVi (a0 12) k2 2 f2, zVi (a0 18) k3 28 f3, zVi (a0 13) k4 8 f4]) hP hK hD hS hA ⟨hx, hb, hml, hown, hts⟩ (zf_X12_isNumber l dC dI h0 p1 a0 b0 c0 k1 f1 o_12 hqo_12 s.heap.size) (cwV 1 hts gX12_letter_X12_isNumber rfl rfl rfl zhd_X12_isNumber ⟨Nat.le_of_ble_eq_true rfl, Nat.le_of_ble_eq_true rfl⟩) [0, 1] rfl (of_decide_eq_true rfl) [0] rfl rfl rfl rfl hl.1 rfl (Nat.le_of_ble_eq_true rfl) dX12_letter_14 ⟨Nat.le_of_ble_eq_true rfl, Nat.le_of_ble_eq_true rfl⟩ [some 0, some 1] (of_decide_eq_true rfl) (of_decide_eq_true rfl) rfl rfl rfl (fun H locs hw_15n hP hD hS => ?_)
    exact jp_1 o_12 H locs ls hfn hP hD hS (lv_sub hl [0, 1, 2, 3] rfl)
  have hfn := (if_neg c_11).symm.trans hfn
  refine lv_aload_n hx hb dX12_letter_4 rfl (lv_at hl 0 rfl) ?_
  refine lv_iload_n hx hb dX12_letter_5 rfl (lv_at hl 1 rfl) ?_
  obtain ⟨o_16, hqo_16, hfn⟩ := zb_s hfn
  refine zcVb (ci := 12) (rest := []) (pc' := 9) (ws' := [(h0, .inr (12, zO a0 b0 c0)), zVi (a0 17) k1 2 f1, zVi (a0 12) k2 2 f2, zVi (a0 18) k3 28 f3, zVi (a0 13) k4 8 f4]) hP hK hD hS hA ⟨hx, hb, hml, hown, hts⟩ (zf_X12_isFormat l dC dI h0 p1 a0 b0 c0 k2 f2 o_16 hqo_16 s.heap.size) (cwV 1 hts gX12_letter_X12_isFormat rfl rfl rfl zhd_X12_isFormat ⟨Nat.le_of_ble_eq_true rfl, Nat.le_of_ble_eq_true rfl⟩) [0, 2] rfl (of_decide_eq_true rfl) [1] rfl rfl rfl rfl hl.1 rfl (Nat.le_of_ble_eq_true rfl) dX12_letter_6 ⟨Nat.le_of_ble_eq_true rfl, Nat.le_of_ble_eq_true rfl⟩ [some 0, none, some 1] (of_decide_eq_true rfl) (of_decide_eq_true rfl) rfl rfl rfl (fun H locs hw_19n hP hD hS => ?_)
  refine lv_goto (tgt := 17) hx hb dX12_letter_9 (of_decide_eq_true rfl) ?_
  exact jp_1 o_16 H locs ls hfn hP hD hS (lv_sub hl [0, 1, 2, 3] rfl)
theorem zn_X12_format_X12 : ∀ w ∈ wsX120, w ∈ wsX12_format := fun _ h => List.mem_cons_of_mem _ (List.mem_append_right _ h)
theorem zw_X12_format_1066 : Cond.fieldLink RX12 59 "ShortEnoughModel" "formatCost" "[I" ∈ wsX12_format := List.mem_of_getElem? (i := 3) (by decide +kernel)
theorem zw_X12_format_1067 : Cond.fieldLink RX12 56 "ShortEnoughModel" "most" "[I" ∈ wsX12_format := List.mem_of_getElem? (i := 2) (by decide +kernel)
theorem zw_X12_format_1068 : Cond.fieldLink RX12 53 "ShortEnoughModel" "step" "[I" ∈ wsX12_format := List.mem_of_getElem? (i := 1) (by decide +kernel)
set_option maxHeartbeats 4000000 in
set_option maxRecDepth 100000 in
theorem zf_X12_format (l : Launch) (dC : Nat → ClassId) (dI : Nat → Nat → Nat) (h0 : Nat) (p1 : Int32) (p2 : Int32) (a0 : Nat → Nat) (b0 : Nat → Int32) (c0 : Nat → Int64) (k1 : Nat) (f1 : Nat → Int32) (k2 : Nat) (f2 : Nat → Int32) (k3 : Nat) (f3 : Nat → Int32) (k4 : Nat) (f4 : Nat → Int32) (o : Int32) (hfn : fn_X12_format p1 p2 f1 f2 f3 f4 = some o) (sz : Nat) : zMi l yX12_format wsX12_format ({ frames := 2, cells := 0, slots := 0, locals := 46 }) (dC, dI) vwCl [.ref h0, .int p1, .int p2] [(h0, .inr (12, zO a0 b0 c0)), zVi (a0 12) k1 2 f1, zVi (a0 16) k2 8 f2, zVi (a0 15) k3 8 f3, zVi (a0 14) k4 8 f4] [(k1, .int), (k2, .int), (k3, .int), (k4, .int)] (fun r _ => r = o) [(h0, .inr (12, zO a0 b0 c0)), zVi (a0 12) k1 2 f1, zVi (a0 16) k2 8 f2, zVi (a0 15) k3 8 f3, zVi (a0 14) k4 8 f4] [(k1, .int), (k2, .int), (k3, .int), (k4, .int)] sz := by
  refine zgoi (cc := cX12_format) (maxL := 3) (ret := (some .int)) (C0 := RX12) (lv0 := [(0, .ref h0), (1, .int p1), (2, .int p2)]) zpl_X12 rfl rfl rfl (Nat.le_of_ble_eq_true rfl) ?_
  intro p e s m below meth c A ls Q hx hb hr hts hown hlocks hml hP hK hD hA hS hl hQ
  unfold fn_X12_format at hfn
  refine lv_aload_n hx hb dX12_format_0 rfl (lv_at hl 0 rfl) ?_
  refine lv_iload_n hx hb dX12_format_1 rfl (lv_at hl 1 rfl) ?_
  obtain ⟨o_1, hqo_1, hfn⟩ := zb_s hfn
  refine zcVb (ci := 12) (rest := []) (pc' := 5) (ws' := [(h0, .inr (12, zO a0 b0 c0)), zVi (a0 12) k1 2 f1, zVi (a0 16) k2 8 f2, zVi (a0 15) k3 8 f3, zVi (a0 14) k4 8 f4]) hP hK hD hS hA ⟨hx, hb, hml, hown, hts⟩ (zf_X12_isFormat l dC dI h0 p1 a0 b0 c0 k1 f1 o_1 hqo_1 s.heap.size) (cwV 1 hts gX12_format_X12_isFormat rfl rfl rfl zhd_X12_isFormat ⟨Nat.le_of_ble_eq_true rfl, Nat.le_of_ble_eq_true rfl⟩) [0, 1] rfl (of_decide_eq_true rfl) [0] rfl rfl rfl rfl hl.1 rfl (Nat.le_of_ble_eq_true rfl) dX12_format_2 ⟨Nat.le_of_ble_eq_true rfl, Nat.le_of_ble_eq_true rfl⟩ [some 0, some 1] (of_decide_eq_true rfl) (of_decide_eq_true rfl) rfl rfl rfl (fun H locs hw_4n hP hD hS => ?_)
  refine lv_if_ne (tgt := 10) hx hb dX12_format_5 (of_decide_eq_true rfl) (fun c_5 => ?_) (fun c_5 => ?_)
  · have hfn := (if_neg c_5).symm.trans hfn
    refine lv_iload_n hx hb dX12_format_10 rfl (lv_at hl 2 rfl) ?_
    refine lv_if_ne (tgt := 23) hx hb dX12_format_11 (of_decide_eq_true rfl) (fun c_6 => ?_) (fun c_6 => ?_)
    · have hfn := (if_neg c_6).symm.trans hfn
      refine lv_iload_n hx hb dX12_format_23 rfl (lv_at hl 2 rfl) ?_
      refine lv_iconst (v := 1) hx hb dX12_format_24 zci_1 ?_
      refine lv_icmp_ne (tgt := 37) hx hb dX12_format_25 (of_decide_eq_true rfl) (fun c_7 => ?_) (fun c_7 => ?_)
      · have hfn := (if_neg c_7).symm.trans hfn
        refine lv_iload_n hx hb dX12_format_37 rfl (lv_at hl 2 rfl) ?_
        refine lv_iconst (v := 2) hx hb dX12_format_38 zci_2 ?_
        refine lv_icmp_ne (tgt := 51) hx hb dX12_format_39 (of_decide_eq_true rfl) (fun c_8 => ?_) (fun c_8 => ?_)
        · have hfn := (if_neg c_8).symm.trans hfn
          refine lv_iconst (v := (-1)) hx hb dX12_format_51 zci_m1 ?_
          have ho := Option.some.inj hfn
          subst ho
          exact zri hx hb hr hK hP hD hS hQ rfl hlocks dX12_format_52
        have hfn := (if_pos c_8).symm.trans hfn
        refine lv_aload_n hx hb dX12_format_42 rfl (lv_at hl 0 rfl) ?_
        refine va_get (D := (dC, dI)) (ci := 12) (v := .ref (a0 16)) (C := RX12) (T := TX12) (N := 67) hx hb hts zn_X12_format_X12 hown hK hP 0 rfl rfl 16 (of_decide_eq_true rfl) (hts (.fieldLink RX12 59 "ShortEnoughModel" "formatCost" "[I") zw_X12_format_1066) (fun _ h9 => h9) rfl dX12_format_43 ?_
        refine lv_iload_n hx hb dX12_format_46 rfl (lv_at hl 1 rfl) ?_
        obtain ⟨h_9, hfn⟩ := zg_s hfn
        refine va_iald hx hb hK hP 2 1 rfl rfl h_9 dX12_format_47 ?_
        refine lv_goto (tgt := 52) hx hb dX12_format_48 (of_decide_eq_true rfl) ?_
        have ho := Option.some.inj hfn
        subst ho
        exact zri hx hb hr hK hP hD hS hQ rfl hlocks dX12_format_52
      have hfn := (if_pos c_7).symm.trans hfn
      refine lv_aload_n hx hb dX12_format_28 rfl (lv_at hl 0 rfl) ?_
      refine va_get (D := (dC, dI)) (ci := 12) (v := .ref (a0 15)) (C := RX12) (T := TX12) (N := 67) hx hb hts zn_X12_format_X12 hown hK hP 0 rfl rfl 15 (of_decide_eq_true rfl) (hts (.fieldLink RX12 56 "ShortEnoughModel" "most" "[I") zw_X12_format_1067) (fun _ h9 => h9) rfl dX12_format_29 ?_
      refine lv_iload_n hx hb dX12_format_32 rfl (lv_at hl 1 rfl) ?_
      obtain ⟨h_10, hfn⟩ := zg_s hfn
      refine va_iald hx hb hK hP 3 2 rfl rfl h_10 dX12_format_33 ?_
      refine lv_goto (tgt := 52) hx hb dX12_format_34 (of_decide_eq_true rfl) ?_
      have ho := Option.some.inj hfn
      subst ho
      exact zri hx hb hr hK hP hD hS hQ rfl hlocks dX12_format_52
    have hfn := (if_pos c_6).symm.trans hfn
    refine lv_aload_n hx hb dX12_format_14 rfl (lv_at hl 0 rfl) ?_
    refine va_get (D := (dC, dI)) (ci := 12) (v := .ref (a0 14)) (C := RX12) (T := TX12) (N := 67) hx hb hts zn_X12_format_X12 hown hK hP 0 rfl rfl 14 (of_decide_eq_true rfl) (hts (.fieldLink RX12 53 "ShortEnoughModel" "step" "[I") zw_X12_format_1068) (fun _ h9 => h9) rfl dX12_format_15 ?_
    refine lv_iload_n hx hb dX12_format_18 rfl (lv_at hl 1 rfl) ?_
    obtain ⟨h_11, hfn⟩ := zg_s hfn
    refine va_iald hx hb hK hP 4 3 rfl rfl h_11 dX12_format_19 ?_
    refine lv_goto (tgt := 52) hx hb dX12_format_20 (of_decide_eq_true rfl) ?_
    have ho := Option.some.inj hfn
    subst ho
    exact zri hx hb hr hK hP hD hS hQ rfl hlocks dX12_format_52
  have hfn := (if_pos c_5).symm.trans hfn
  refine lv_iconst (v := (-1)) hx hb dX12_format_8 zci_m1 ?_
  have ho := Option.some.inj hfn
  subst ho
  exact zri hx hb hr hK hP hD hS hQ rfl hlocks dX12_format_9
theorem zn_X12_groupPlace_X12 : ∀ w ∈ wsX120, w ∈ wsX12_groupPlace := fun _ h => List.mem_cons_of_mem _ (List.mem_append_right _ h)
theorem zw_X12_groupPlace_1070 : Cond.fieldLink RX12 93 "ShortEnoughModel" "groupOf" "[I" ∈ wsX12_groupPlace := List.mem_of_getElem? (i := 1) (by decide +kernel)
set_option maxHeartbeats 4000000 in
set_option maxRecDepth 100000 in
theorem zf_X12_groupPlace (l : Launch) (dC : Nat → ClassId) (dI : Nat → Nat → Nat) (h0 : Nat) (p1 : Int32) (a0 : Nat → Nat) (b0 : Nat → Int32) (c0 : Nat → Int64) (k1 : Nat) (f1 : Nat → Int32) (o : Int32) (hfn : fn_X12_groupPlace p1 f1 = some o) (sz : Nat) : zMi l yX12_groupPlace wsX12_groupPlace ({ frames := 0, cells := 0, slots := 0, locals := 0 }) (dC, dI) vwCl [.ref h0, .int p1] [(h0, .inr (12, zO a0 b0 c0)), zVi (a0 27) k1 28 f1] [(k1, .int)] (fun r _ => r = o) [(h0, .inr (12, zO a0 b0 c0)), zVi (a0 27) k1 28 f1] [(k1, .int)] sz := by
  refine zgoi (cc := cX12_groupPlace) (maxL := 4) (ret := (some .int)) (C0 := RX12) (lv0 := [(0, .ref h0), (1, .int p1)]) zpl_X12 rfl rfl rfl (Nat.le_of_ble_eq_true rfl) ?_
  intro p e s m below meth c A ls Q hx hb hr hts hown hlocks hml hP hK hD hA hS hl hQ
  unfold fn_X12_groupPlace at hfn
  refine lv_iconst (v := 0) hx hb dX12_groupPlace_0 zci_0 ?_
  refine lv_istore_n (lv' := [(2, .int 0), (0, .ref h0), (1, .int p1)]) hx hb dX12_groupPlace_1 rfl hl (of_decide_eq_true rfl) rfl (fun ls hl => ?_)
  refine lv_iconst (v := 0) hx hb dX12_groupPlace_2 zci_0 ?_
  refine lv_istore_n (lv' := [(3, .int 0), (2, .int 0), (0, .ref h0), (1, .int p1)]) hx hb dX12_groupPlace_3 rfl hl (of_decide_eq_true rfl) rfl (fun ls hl => ?_)
  obtain ⟨bd_1, ebd_1, hfn⟩ := zl_g hfn
  have lp_1 : ∀ (n : Nat) (s_1 : Int32 × Int32) (H : Heap) (locs : List Loc) (ls : Array Slot), zl bd_1 n s_1 = some o → va_P (dC, dI) vwCl [(h0, .inr (12, zO a0 b0 c0)), zVi (a0 27) k1 28 f1] H → va_D A [(h0, .inr (12, zO a0 b0 c0)), zVi (a0 27) k1 28 f1] → va_S A s.heap H locs → lv_has ls 4 [(3, .int s_1.2), (2, .int s_1.1), (0, .ref h0), (1, .int p1)] → W p l e (headSpec wsX12_groupPlace ({ frames := 0, cells := 0, slots := 0, locals := 0 })).room s m ([.ref h0, .int p1] : List Value).toArray below meth c H locs 0 0 Q (F0 m 4 ls []) := by
    intro n
    induction n with
    | zero => exact fun _ _ _ _ hfn => (zl_0 hfn).elim
    | succ n ih_1 =>
      intro s_1 H locs ls hfn hP hD hS hl
      have hfn := zl_s ebd_1 hfn
      refine lv_iload_n hx hb dX12_groupPlace_4 rfl (lv_at hl 0 rfl) ?_
      refine lv_aload_n hx hb dX12_groupPlace_5 rfl (lv_at hl 2 rfl) ?_
      refine va_get (D := (dC, dI)) (ci := 12) (v := .ref (a0 27)) (C := RX12) (T := TX12) (N := 67) hx hb hts zn_X12_groupPlace_X12 hown hK hP 0 rfl rfl 27 (of_decide_eq_true rfl) (hts (.fieldLink RX12 93 "ShortEnoughModel" "groupOf" "[I") zw_X12_groupPlace_1070) (fun _ h9 => h9) rfl dX12_groupPlace_6 ?_
      refine lv_iload_n hx hb dX12_groupPlace_9 rfl (lv_at hl 3 rfl) ?_
      obtain ⟨h_2, hfn⟩ := zg_s hfn
      refine va_iald hx hb hK hP 1 0 rfl rfl h_2 dX12_groupPlace_10 ?_
      refine lv_icmp_ge (tgt := 38) hx hb dX12_groupPlace_11 (of_decide_eq_true rfl) (fun c_3 => ?_) (fun c_3 => ?_)
      · have hfn := (if_pos c_3).symm.trans hfn
        refine lv_iload_n hx hb dX12_groupPlace_38 rfl (lv_at hl 1 rfl) ?_
        have ho := Option.some.inj hfn
        subst ho
        exact zri hx hb hr hK hP hD hS hQ rfl hlocks dX12_groupPlace_39
      have hfn := (if_neg c_3).symm.trans hfn
      refine lv_iload_n hx hb dX12_groupPlace_14 rfl (lv_at hl 1 rfl) ?_
      refine lv_aload_n hx hb dX12_groupPlace_15 rfl (lv_at hl 2 rfl) ?_
      refine va_get (D := (dC, dI)) (ci := 12) (v := .ref (a0 27)) (C := RX12) (T := TX12) (N := 67) hx hb hts zn_X12_groupPlace_X12 hown hK hP 0 rfl rfl 27 (of_decide_eq_true rfl) (hts (.fieldLink RX12 93 "ShortEnoughModel" "groupOf" "[I") zw_X12_groupPlace_1070) (fun _ h9 => h9) rfl dX12_groupPlace_16 ?_
      refine lv_iload_n hx hb dX12_groupPlace_19 rfl (lv_at hl 0 rfl) ?_
      obtain ⟨h_4, hfn⟩ := zg_s hfn
      refine va_iald hx hb hK hP 1 0 rfl rfl h_4 dX12_groupPlace_20 ?_
      refine lv_iload_n hx hb dX12_groupPlace_21 rfl (lv_at hl 0 rfl) ?_
      refine lv_icmp_ne (tgt := 29) hx hb dX12_groupPlace_22 (of_decide_eq_true rfl) (fun c_5 => ?_) (fun c_5 => ?_)
      · have hfn := (if_neg c_5).symm.trans hfn
        refine lv_iconst (v := 0) hx hb dX12_groupPlace_29 zci_0 ?_
        refine lv_iadd hx hb dX12_groupPlace_30 ?_
        refine lv_istore_n (lv' := [(2, .int (s_1.1 + 0)), (3, .int s_1.2), (0, .ref h0), (1, .int p1)]) hx hb dX12_groupPlace_31 rfl hl (of_decide_eq_true rfl) rfl (fun ls hl => ?_)
        refine lv_iinc (v := (s_1.2 + 1)) (lv' := [(3, .int (s_1.2 + 1)), (2, .int (s_1.1 + 0)), (0, .ref h0), (1, .int p1)]) hx hb dX12_groupPlace_32 hl (k := 1) rfl rfl (of_decide_eq_true rfl) rfl (fun ls hl => ?_)
        refine lv_goto (tgt := 4) hx hb dX12_groupPlace_35 (of_decide_eq_true rfl) ?_
        exact ih_1 ((s_1.1 + 0), (s_1.2 + 1)) H locs ls hfn hP hD hS (lv_sub hl [0, 1, 2, 3] rfl)
      have hfn := (if_pos c_5).symm.trans hfn
      refine lv_iconst (v := 1) hx hb dX12_groupPlace_25 zci_1 ?_
      refine lv_goto (tgt := 30) hx hb dX12_groupPlace_26 (of_decide_eq_true rfl) ?_
      refine lv_iadd hx hb dX12_groupPlace_30 ?_
      refine lv_istore_n (lv' := [(2, .int (s_1.1 + 1)), (3, .int s_1.2), (0, .ref h0), (1, .int p1)]) hx hb dX12_groupPlace_31 rfl hl (of_decide_eq_true rfl) rfl (fun ls hl => ?_)
      refine lv_iinc (v := (s_1.2 + 1)) (lv' := [(3, .int (s_1.2 + 1)), (2, .int (s_1.1 + 1)), (0, .ref h0), (1, .int p1)]) hx hb dX12_groupPlace_32 hl (k := 1) rfl rfl (of_decide_eq_true rfl) rfl (fun ls hl => ?_)
      refine lv_goto (tgt := 4) hx hb dX12_groupPlace_35 (of_decide_eq_true rfl) ?_
      exact ih_1 ((s_1.1 + 1), (s_1.2 + 1)) H locs ls hfn hP hD hS (lv_sub hl [0, 1, 2, 3] rfl)
  exact lp_1 _ (0, 0) s.heap [] ls hfn hP hD hS (lv_sub hl [0, 1, 2, 3] rfl)
theorem zn_X12_number__X12 : ∀ w ∈ wsX120, w ∈ wsX12_number_ := fun _ h => List.mem_cons_of_mem _ (List.mem_append_right _ h)
theorem zw_X12_number__1072 : Cond.fieldLink RX12 68 "ShortEnoughModel" "op" "[I" ∈ wsX12_number_ := List.mem_of_getElem? (i := 1) (by decide +kernel)
theorem zw_X12_number__1073 : Cond.fieldLink RX12 71 "ShortEnoughModel" "first" "[I" ∈ wsX12_number_ := List.mem_of_getElem? (i := 2) (by decide +kernel)
theorem zw_X12_number__1074 : Cond.fieldLink RX12 74 "ShortEnoughModel" "second" "[I" ∈ wsX12_number_ := List.mem_of_getElem? (i := 3) (by decide +kernel)
theorem zw_X12_number__1075 : Cond.fieldLink RX12 87 "ShortEnoughModel" "fixedAs" "[I" ∈ wsX12_number_ := List.mem_of_getElem? (i := 4) (by decide +kernel)
theorem zw_X12_number__1076 : Cond.fieldLink RX12 90 "ShortEnoughModel" "within" "[I" ∈ wsX12_number_ := List.mem_of_getElem? (i := 5) (by decide +kernel)
set_option maxHeartbeats 4000000 in
set_option maxRecDepth 100000 in
theorem zf_X12_number_ (l : Launch) (dC : Nat → ClassId) (dI : Nat → Nat → Nat) (h0 : Nat) (p1 : Int32) (p2 : Int32) (a0 : Nat → Nat) (b0 : Nat → Int32) (c0 : Nat → Int64) (k1 : Nat) (f1 : Nat → Int32) (k2 : Nat) (f2 : Nat → Int32) (k3 : Nat) (f3 : Nat → Int32) (k4 : Nat) (f4 : Nat → Int32) (k5 : Nat) (f5 : Nat → Int32) (k6 : Nat) (f6 : Nat → Int32) (k7 : Nat) (f7 : Nat → Int32) (o : Int32) (hfn : fn_X12_number_ p1 p2 f1 f2 f3 f4 f5 f6 f7 = some o) (sz : Nat) : zMi l yX12_number_ wsX12_number_ ({ frames := 2, cells := 0, slots := 0, locals := 46 }) (dC, dI) vwCl [.ref h0, .int p1, .int p2] [(h0, .inr (12, zO a0 b0 c0)), zVi (a0 17) k1 2 f1, zVi (a0 19) k2 28 f2, zVi (a0 20) k3 28 f3, zVi (a0 21) k4 28 f4, zVi (a0 27) k5 28 f5, zVi (a0 25) k6 28 f6, zVi (a0 26) k7 28 f7] [(k1, .int), (k2, .int), (k3, .int), (k4, .int), (k5, .int), (k6, .int), (k7, .int)] (fun r _ => r = o) [(h0, .inr (12, zO a0 b0 c0)), zVi (a0 17) k1 2 f1, zVi (a0 19) k2 28 f2, zVi (a0 20) k3 28 f3, zVi (a0 21) k4 28 f4, zVi (a0 27) k5 28 f5, zVi (a0 25) k6 28 f6, zVi (a0 26) k7 28 f7] [(k1, .int), (k2, .int), (k3, .int), (k4, .int), (k5, .int), (k6, .int), (k7, .int)] sz := by
  refine zgoi (cc := cX12_number_) (maxL := 3) (ret := (some .int)) (C0 := RX12) (lv0 := [(0, .ref h0), (1, .int p1), (2, .int p2)]) zpl_X12 rfl rfl rfl (Nat.le_of_ble_eq_true rfl) ?_
  intro p e s m below meth c A ls Q hx hb hr hts hown hlocks hml hP hK hD hA hS hl hQ
  unfold fn_X12_number_ at hfn
  refine lv_aload_n hx hb dX12_number__0 rfl (lv_at hl 0 rfl) ?_
  refine lv_iload_n hx hb dX12_number__1 rfl (lv_at hl 1 rfl) ?_
  obtain ⟨o_1, hqo_1, hfn⟩ := zb_s hfn
  refine zcVb (ci := 12) (rest := []) (pc' := 5) (ws' := [(h0, .inr (12, zO a0 b0 c0)), zVi (a0 17) k1 2 f1, zVi (a0 19) k2 28 f2, zVi (a0 20) k3 28 f3, zVi (a0 21) k4 28 f4, zVi (a0 27) k5 28 f5, zVi (a0 25) k6 28 f6, zVi (a0 26) k7 28 f7]) hP hK hD hS hA ⟨hx, hb, hml, hown, hts⟩ (zf_X12_isNumber l dC dI h0 p1 a0 b0 c0 k1 f1 o_1 hqo_1 s.heap.size) (cwV 1 hts gX12_number__X12_isNumber rfl rfl rfl zhd_X12_isNumber ⟨Nat.le_of_ble_eq_true rfl, Nat.le_of_ble_eq_true rfl⟩) [0, 1] rfl (of_decide_eq_true rfl) [0] rfl rfl rfl rfl hl.1 rfl (Nat.le_of_ble_eq_true rfl) dX12_number__2 ⟨Nat.le_of_ble_eq_true rfl, Nat.le_of_ble_eq_true rfl⟩ [some 0, some 1] (of_decide_eq_true rfl) (of_decide_eq_true rfl) rfl rfl rfl (fun H locs hw_4n hP hD hS => ?_)
  refine lv_if_ne (tgt := 11) hx hb dX12_number__5 (of_decide_eq_true rfl) (fun c_5 => ?_) (fun c_5 => ?_)
  · have hfn := (if_neg c_5).symm.trans hfn
    refine lv_iload_n hx hb dX12_number__11 rfl (lv_at hl 2 rfl) ?_
    by_cases c_6 : p2 = 0
    · have hfn := (if_pos c_6).symm.trans hfn
      refine W.eq (g2 := F0 m 12 ls [.int 0]) (by rw [c_6]) ?_
      refine lv_tableIn (tgt := 52) (off := 40) hx hb dX12_number__12 (by decide +kernel) (by decide +kernel) (by decide +kernel) (of_decide_eq_true rfl) ?_
      refine lv_aload_n hx hb dX12_number__52 rfl (lv_at hl 0 rfl) ?_
      refine va_get (D := (dC, dI)) (ci := 12) (v := .ref (a0 19)) (C := RX12) (T := TX12) (N := 67) hx hb hts zn_X12_number__X12 hown hK hP 0 rfl rfl 19 (of_decide_eq_true rfl) (hts (.fieldLink RX12 68 "ShortEnoughModel" "op" "[I") zw_X12_number__1072) (fun _ h9 => h9) rfl dX12_number__53 ?_
      refine lv_iload_n hx hb dX12_number__56 rfl (lv_at hl 1 rfl) ?_
      obtain ⟨h_7, hfn⟩ := zg_s hfn
      refine va_iald hx hb hK hP 2 1 rfl rfl h_7 dX12_number__57 ?_
      have ho := Option.some.inj hfn
      subst ho
      exact zri hx hb hr hK hP hD hS hQ rfl hlocks dX12_number__58
    have hfn := (if_neg c_6).symm.trans hfn
    have oc_6 := zk_ne rfl (by decide +kernel : (0 : Int32).toInt = 0) c_6
    by_cases c_8 : p2 = 1
    · have hfn := (if_pos c_8).symm.trans hfn
      refine W.eq (g2 := F0 m 12 ls [.int 1]) (by rw [c_8]) ?_
      refine lv_tableIn (tgt := 59) (off := 47) hx hb dX12_number__12 (by decide +kernel) (by decide +kernel) (by decide +kernel) (of_decide_eq_true rfl) ?_
      refine lv_aload_n hx hb dX12_number__59 rfl (lv_at hl 0 rfl) ?_
      refine va_get (D := (dC, dI)) (ci := 12) (v := .ref (a0 20)) (C := RX12) (T := TX12) (N := 67) hx hb hts zn_X12_number__X12 hown hK hP 0 rfl rfl 20 (of_decide_eq_true rfl) (hts (.fieldLink RX12 71 "ShortEnoughModel" "first" "[I") zw_X12_number__1073) (fun _ h9 => h9) rfl dX12_number__60 ?_
      refine lv_iload_n hx hb dX12_number__63 rfl (lv_at hl 1 rfl) ?_
      obtain ⟨h_9, hfn⟩ := zg_s hfn
      refine va_iald hx hb hK hP 3 2 rfl rfl h_9 dX12_number__64 ?_
      have ho := Option.some.inj hfn
      subst ho
      exact zri hx hb hr hK hP hD hS hQ rfl hlocks dX12_number__65
    have hfn := (if_neg c_8).symm.trans hfn
    have oc_8 := zk_ne rfl (by decide +kernel : (1 : Int32).toInt = 1) c_8
    by_cases c_10 : p2 = 2
    · have hfn := (if_pos c_10).symm.trans hfn
      refine W.eq (g2 := F0 m 12 ls [.int 2]) (by rw [c_10]) ?_
      refine lv_tableIn (tgt := 66) (off := 54) hx hb dX12_number__12 (by decide +kernel) (by decide +kernel) (by decide +kernel) (of_decide_eq_true rfl) ?_
      refine lv_aload_n hx hb dX12_number__66 rfl (lv_at hl 0 rfl) ?_
      refine va_get (D := (dC, dI)) (ci := 12) (v := .ref (a0 21)) (C := RX12) (T := TX12) (N := 67) hx hb hts zn_X12_number__X12 hown hK hP 0 rfl rfl 21 (of_decide_eq_true rfl) (hts (.fieldLink RX12 74 "ShortEnoughModel" "second" "[I") zw_X12_number__1074) (fun _ h9 => h9) rfl dX12_number__67 ?_
      refine lv_iload_n hx hb dX12_number__70 rfl (lv_at hl 1 rfl) ?_
      obtain ⟨h_11, hfn⟩ := zg_s hfn
      refine va_iald hx hb hK hP 4 3 rfl rfl h_11 dX12_number__71 ?_
      have ho := Option.some.inj hfn
      subst ho
      exact zri hx hb hr hK hP hD hS hQ rfl hlocks dX12_number__72
    have hfn := (if_neg c_10).symm.trans hfn
    have oc_10 := zk_ne rfl (by decide +kernel : (2 : Int32).toInt = 2) c_10
    by_cases c_12 : p2 = 3
    · have hfn := (if_pos c_12).symm.trans hfn
      refine W.eq (g2 := F0 m 12 ls [.int 3]) (by rw [c_12]) ?_
      refine lv_tableIn (tgt := 73) (off := 61) hx hb dX12_number__12 (by decide +kernel) (by decide +kernel) (by decide +kernel) (of_decide_eq_true rfl) ?_
      refine lv_aload_n hx hb dX12_number__73 rfl (lv_at hl 0 rfl) ?_
      refine lv_iload_n hx hb dX12_number__74 rfl (lv_at hl 1 rfl) ?_
      obtain ⟨o_13, hqo_13, hfn⟩ := zb_s hfn
      refine zcVi (ci := 12) (rest := []) (pc' := 78) (ws' := [(h0, .inr (12, zO a0 b0 c0)), zVi (a0 17) k1 2 f1, zVi (a0 19) k2 28 f2, zVi (a0 20) k3 28 f3, zVi (a0 21) k4 28 f4, zVi (a0 27) k5 28 f5, zVi (a0 25) k6 28 f6, zVi (a0 26) k7 28 f7]) hP hK hD hS hA ⟨hx, hb, hml, hown, hts⟩ (zf_X12_groupPlace l dC dI h0 p1 a0 b0 c0 k5 f5 o_13 hqo_13 H.size) (cwV 1 hts gX12_number__X12_groupPlace rfl rfl rfl zhd_X12_groupPlace ⟨Nat.le_of_ble_eq_true rfl, Nat.le_of_ble_eq_true rfl⟩) [0, 5] rfl (of_decide_eq_true rfl) [4] rfl rfl rfl rfl hl.1 rfl (Nat.le_of_ble_eq_true rfl) dX12_number__75 ⟨Nat.le_of_ble_eq_true rfl, Nat.le_of_ble_eq_true rfl⟩ [some 0, none, none, none, none, some 1] (of_decide_eq_true rfl) (of_decide_eq_true rfl) rfl rfl rfl (fun H locs hP hD hS => ?_)
      have ho := Option.some.inj hfn
      subst ho
      exact zri hx hb hr hK hP hD hS hQ rfl hlocks dX12_number__78
    have hfn := (if_neg c_12).symm.trans hfn
    have oc_12 := zk_ne rfl (by decide +kernel : (3 : Int32).toInt = 3) c_12
    by_cases c_17 : p2 = 4
    · have hfn := (if_pos c_17).symm.trans hfn
      refine W.eq (g2 := F0 m 12 ls [.int 4]) (by rw [c_17]) ?_
      refine lv_tableIn (tgt := 79) (off := 67) hx hb dX12_number__12 (by decide +kernel) (by decide +kernel) (by decide +kernel) (of_decide_eq_true rfl) ?_
      refine lv_aload_n hx hb dX12_number__79 rfl (lv_at hl 0 rfl) ?_
      refine va_get (D := (dC, dI)) (ci := 12) (v := .ref (a0 25)) (C := RX12) (T := TX12) (N := 67) hx hb hts zn_X12_number__X12 hown hK hP 0 rfl rfl 25 (of_decide_eq_true rfl) (hts (.fieldLink RX12 87 "ShortEnoughModel" "fixedAs" "[I") zw_X12_number__1075) (fun _ h9 => h9) rfl dX12_number__80 ?_
      refine lv_iload_n hx hb dX12_number__83 rfl (lv_at hl 1 rfl) ?_
      obtain ⟨h_18, hfn⟩ := zg_s hfn
      refine va_iald hx hb hK hP 6 5 rfl rfl h_18 dX12_number__84 ?_
      have ho := Option.some.inj hfn
      subst ho
      exact zri hx hb hr hK hP hD hS hQ rfl hlocks dX12_number__85
    have hfn := (if_neg c_17).symm.trans hfn
    have oc_17 := zk_ne rfl (by decide +kernel : (4 : Int32).toInt = 4) c_17
    by_cases c_19 : p2 = 5
    · have hfn := (if_pos c_19).symm.trans hfn
      refine W.eq (g2 := F0 m 12 ls [.int 5]) (by rw [c_19]) ?_
      refine lv_tableIn (tgt := 86) (off := 74) hx hb dX12_number__12 (by decide +kernel) (by decide +kernel) (by decide +kernel) (of_decide_eq_true rfl) ?_
      refine lv_aload_n hx hb dX12_number__86 rfl (lv_at hl 0 rfl) ?_
      refine va_get (D := (dC, dI)) (ci := 12) (v := .ref (a0 26)) (C := RX12) (T := TX12) (N := 67) hx hb hts zn_X12_number__X12 hown hK hP 0 rfl rfl 26 (of_decide_eq_true rfl) (hts (.fieldLink RX12 90 "ShortEnoughModel" "within" "[I") zw_X12_number__1076) (fun _ h9 => h9) rfl dX12_number__87 ?_
      refine lv_iload_n hx hb dX12_number__90 rfl (lv_at hl 1 rfl) ?_
      obtain ⟨h_20, hfn⟩ := zg_s hfn
      refine va_iald hx hb hK hP 7 6 rfl rfl h_20 dX12_number__91 ?_
      have ho := Option.some.inj hfn
      subst ho
      exact zri hx hb hr hK hP hD hS hQ rfl hlocks dX12_number__92
    have hfn := (if_neg c_19).symm.trans hfn
    have oc_19 := zk_ne rfl (by decide +kernel : (5 : Int32).toInt = 5) c_19
    refine lv_tableOut (tgt := 93) hx hb dX12_number__12 (by omega) (of_decide_eq_true rfl) ?_
    refine lv_bipush (v := (-2)) hx hb dX12_number__93 zcb_m2 ?_
    have ho := Option.some.inj hfn
    subst ho
    exact zri hx hb hr hK hP hD hS hQ rfl hlocks dX12_number__95
  have hfn := (if_pos c_5).symm.trans hfn
  refine lv_bipush (v := (-2)) hx hb dX12_number__8 zcb_m2 ?_
  have ho := Option.some.inj hfn
  subst ho
  exact zri hx hb hr hK hP hD hS hQ rfl hlocks dX12_number__10
theorem zw_X12_told_1077 : Cond.constantLong RX12 381 (-1000000000000000) ∈ wsX12_told := List.mem_of_getElem? (i := 1) (by decide +kernel)
theorem zn_X12_told_X12 : ∀ w ∈ wsX120, w ∈ wsX12_told := fun _ h => List.mem_cons_of_mem _ (List.mem_append_right _ h)
theorem zw_X12_told_1079 : Cond.fieldLink RX12 68 "ShortEnoughModel" "op" "[I" ∈ wsX12_told := List.mem_of_getElem? (i := 2) (by decide +kernel)
theorem zw_X12_told_1080 : Cond.fieldLink RX12 74 "ShortEnoughModel" "second" "[I" ∈ wsX12_told := List.mem_of_getElem? (i := 4) (by decide +kernel)
theorem zw_X12_told_1081 : Cond.fieldLink RX12 71 "ShortEnoughModel" "first" "[I" ∈ wsX12_told := List.mem_of_getElem? (i := 3) (by decide +kernel)
theorem zw_X12_told_1082 : Cond.fieldLink RX12 81 "ShortEnoughModel" "secondV" "[J" ∈ wsX12_told := List.mem_of_getElem? (i := 6) (by decide +kernel)
theorem zw_X12_told_1083 : Cond.fieldLink RX12 77 "ShortEnoughModel" "firstV" "[J" ∈ wsX12_told := List.mem_of_getElem? (i := 5) (by decide +kernel)
set_option maxHeartbeats 4000000 in
set_option maxRecDepth 100000 in
theorem zf_X12_told (l : Launch) (dC : Nat → ClassId) (dI : Nat → Nat → Nat) (h0 : Nat) (p1 : Int32) (p2 : Int32) (a0 : Nat → Nat) (b0 : Nat → Int32) (c0 : Nat → Int64) (k1 : Nat) (f1 : Nat → Int32) (k2 : Nat) (f2 : Nat → Int32) (k3 : Nat) (f3 : Nat → Int32) (k4 : Nat) (f4 : Nat → Int32) (k5 : Nat) (f5 : Nat → Int64) (k6 : Nat) (f6 : Nat → Int64) (o : Int64) (hfn : fn_X12_told p1 p2 f1 f2 f3 f4 f5 f6 = some o) (sz : Nat) : zMl l yX12_told wsX12_told ({ frames := 2, cells := 0, slots := 0, locals := 46 }) (dC, dI) vwCl [.ref h0, .int p1, .int p2] [(h0, .inr (12, zO a0 b0 c0)), zVi (a0 17) k1 2 f1, zVi (a0 19) k2 28 f2, zVi (a0 21) k3 28 f3, zVi (a0 20) k4 28 f4, zVl (a0 23) k5 28 f5, zVl (a0 22) k6 28 f6] [(k1, .int), (k2, .int), (k3, .int), (k4, .int), (k5, .long), (k6, .long)] (fun r _ => r = o) [(h0, .inr (12, zO a0 b0 c0)), zVi (a0 17) k1 2 f1, zVi (a0 19) k2 28 f2, zVi (a0 21) k3 28 f3, zVi (a0 20) k4 28 f4, zVl (a0 23) k5 28 f5, zVl (a0 22) k6 28 f6] [(k1, .int), (k2, .int), (k3, .int), (k4, .int), (k5, .long), (k6, .long)] sz := by
  refine zgol (cc := cX12_told) (maxL := 3) (ret := (some .long)) (C0 := RX12) (lv0 := [(0, .ref h0), (1, .int p1), (2, .int p2)]) zpl_X12 rfl rfl rfl (Nat.le_of_ble_eq_true rfl) ?_
  intro p e s m below meth c A ls Q hx hb hr hts hown hlocks hml hP hK hD hA hS hl hQ
  unfold fn_X12_told at hfn
  refine lv_aload_n hx hb dX12_told_0 rfl (lv_at hl 0 rfl) ?_
  refine lv_iload_n hx hb dX12_told_1 rfl (lv_at hl 1 rfl) ?_
  obtain ⟨o_1, hqo_1, hfn⟩ := zb_s hfn
  refine zcVb (ci := 12) (rest := []) (pc' := 5) (ws' := [(h0, .inr (12, zO a0 b0 c0)), zVi (a0 17) k1 2 f1, zVi (a0 19) k2 28 f2, zVi (a0 21) k3 28 f3, zVi (a0 20) k4 28 f4, zVl (a0 23) k5 28 f5, zVl (a0 22) k6 28 f6]) hP hK hD hS hA ⟨hx, hb, hml, hown, hts⟩ (zf_X12_isNumber l dC dI h0 p1 a0 b0 c0 k1 f1 o_1 hqo_1 s.heap.size) (cwV 1 hts gX12_told_X12_isNumber rfl rfl rfl zhd_X12_isNumber ⟨Nat.le_of_ble_eq_true rfl, Nat.le_of_ble_eq_true rfl⟩) [0, 1] rfl (of_decide_eq_true rfl) [0] rfl rfl rfl rfl hl.1 rfl (Nat.le_of_ble_eq_true rfl) dX12_told_2 ⟨Nat.le_of_ble_eq_true rfl, Nat.le_of_ble_eq_true rfl⟩ [some 0, some 1] (of_decide_eq_true rfl) (of_decide_eq_true rfl) rfl rfl rfl (fun H locs hw_4n hP hD hS => ?_)
  refine lv_if_eq (tgt := 18) hx hb dX12_told_5 (of_decide_eq_true rfl) (fun c_5 => ?_) (fun c_5 => ?_)
  · have hfn := (if_pos c_5).symm.trans hfn
    refine lv_ldc2 (v := (-1000000000000000)) hx hb hown (hts (.constantLong RX12 381 (-1000000000000000)) zw_X12_told_1077) dX12_told_18 ?_
    have ho := Option.some.inj hfn
    subst ho
    exact zrl hx hb hr hK hP hD hS hQ rfl hlocks dX12_told_21
  have hfn := (if_neg c_5).symm.trans hfn
  refine lv_iload_n hx hb dX12_told_8 rfl (lv_at hl 2 rfl) ?_
  refine lv_i2l (v := p2.toInt64) hx hb dX12_told_9 rfl ?_
  refine lv_lconst (v := 0) hx hb dX12_told_10 (by decide +kernel) ?_
  refine lv_lconst (v := 1) hx hb dX12_told_11 (by decide +kernel) ?_
  obtain ⟨o_6, hqo_6, hfn⟩ := zb_s hfn
  refine zcSb (rest := []) (pc' := 15) (ws' := [(h0, .inr (12, zO a0 b0 c0)), zVi (a0 17) k1 2 f1, zVi (a0 19) k2 28 f2, zVi (a0 21) k3 28 f3, zVi (a0 20) k4 28 f4, zVl (a0 23) k5 28 f5, zVl (a0 22) k6 28 f6]) hP hK hD hS hA ⟨hx, hb, hml, hown, hts⟩ (zf_X12_isIn l dC dI p2.toInt64 (0 : Int64) (1 : Int64) o_6 hqo_6 H.size) (va_cwS 3 hts gX12_told_X12_isIn rfl rfl rfl zhd_X12_isIn.2 ⟨Nat.le_of_ble_eq_true rfl, Nat.le_of_ble_eq_true rfl⟩) [] rfl (of_decide_eq_true rfl) [] rfl rfl hl.1 rfl (Nat.le_of_ble_eq_true rfl) dX12_told_12 ⟨Nat.le_of_ble_eq_true rfl, Nat.le_of_ble_eq_true rfl⟩ [] (of_decide_eq_true rfl) (of_decide_eq_true rfl) rfl rfl rfl (fun H locs hw_9n hP hD hS => ?_)
  refine lv_if_ne (tgt := 22) hx hb dX12_told_15 (of_decide_eq_true rfl) (fun c_10 => ?_) (fun c_10 => ?_)
  · have hfn := (if_neg c_10).symm.trans hfn
    refine lv_aload_n hx hb dX12_told_22 rfl (lv_at hl 0 rfl) ?_
    refine va_get (D := (dC, dI)) (ci := 12) (v := .ref (a0 19)) (C := RX12) (T := TX12) (N := 67) hx hb hts zn_X12_told_X12 hown hK hP 0 rfl rfl 19 (of_decide_eq_true rfl) (hts (.fieldLink RX12 68 "ShortEnoughModel" "op" "[I") zw_X12_told_1079) (fun _ h9 => h9) rfl dX12_told_23 ?_
    refine lv_iload_n hx hb dX12_told_26 rfl (lv_at hl 1 rfl) ?_
    obtain ⟨h_11, hfn⟩ := zg_s hfn
    refine va_iald hx hb hK hP 2 1 rfl rfl h_11 dX12_told_27 ?_
    obtain ⟨j_12, ej_12, hfn⟩ := zj_g hfn
    have jp_12 : ∀ (s_12 : Unit) (H : Heap) (locs : List Loc) (ls : Array Slot), j_12 s_12 = some o → va_P (dC, dI) vwCl [(h0, .inr (12, zO a0 b0 c0)), zVi (a0 17) k1 2 f1, zVi (a0 19) k2 28 f2, zVi (a0 21) k3 28 f3, zVi (a0 20) k4 28 f4, zVl (a0 23) k5 28 f5, zVl (a0 22) k6 28 f6] H → va_D A [(h0, .inr (12, zO a0 b0 c0)), zVi (a0 17) k1 2 f1, zVi (a0 19) k2 28 f2, zVi (a0 21) k3 28 f3, zVi (a0 20) k4 28 f4, zVl (a0 23) k5 28 f5, zVl (a0 22) k6 28 f6] → va_S A s.heap H locs → lv_has ls 3 [(0, .ref h0), (1, .int p1), (2, .int p2)] → W p l e (headSpec wsX12_told ({ frames := 2, cells := 0, slots := 0, locals := 46 })).room s m ([.ref h0, .int p1, .int p2] : List Value).toArray below meth c H locs 0 0 Q (F0 m 58 ls []) := by
      intro s_12 H locs ls hfn hP hD hS hl
      have hfn := zj_s ej_12 hfn
      refine lv_iload_n hx hb dX12_told_58 rfl (lv_at hl 2 rfl) ?_
      refine lv_if_ne (tgt := 71) hx hb dX12_told_59 (of_decide_eq_true rfl) (fun c_13 => ?_) (fun c_13 => ?_)
      · have hfn := (if_neg c_13).symm.trans hfn
        refine lv_aload_n hx hb dX12_told_71 rfl (lv_at hl 0 rfl) ?_
        refine va_get (D := (dC, dI)) (ci := 12) (v := .ref (a0 23)) (C := RX12) (T := TX12) (N := 67) hx hb hts zn_X12_told_X12 hown hK hP 0 rfl rfl 23 (of_decide_eq_true rfl) (hts (.fieldLink RX12 81 "ShortEnoughModel" "secondV" "[J") zw_X12_told_1082) (fun _ h9 => h9) rfl dX12_told_72 ?_
        refine lv_iload_n hx hb dX12_told_75 rfl (lv_at hl 1 rfl) ?_
        obtain ⟨h_14, hfn⟩ := zg_s hfn
        refine va_lald hx hb hK hP 5 4 rfl rfl h_14 dX12_told_76 ?_
        have ho := Option.some.inj hfn
        subst ho
        exact zrl hx hb hr hK hP hD hS hQ rfl hlocks dX12_told_77
      have hfn := (if_pos c_13).symm.trans hfn
      refine lv_aload_n hx hb dX12_told_62 rfl (lv_at hl 0 rfl) ?_
      refine va_get (D := (dC, dI)) (ci := 12) (v := .ref (a0 22)) (C := RX12) (T := TX12) (N := 67) hx hb hts zn_X12_told_X12 hown hK hP 0 rfl rfl 22 (of_decide_eq_true rfl) (hts (.fieldLink RX12 77 "ShortEnoughModel" "firstV" "[J") zw_X12_told_1083) (fun _ h9 => h9) rfl dX12_told_63 ?_
      refine lv_iload_n hx hb dX12_told_66 rfl (lv_at hl 1 rfl) ?_
      obtain ⟨h_15, hfn⟩ := zg_s hfn
      refine va_lald hx hb hK hP 6 5 rfl rfl h_15 dX12_told_67 ?_
      refine lv_goto (tgt := 77) hx hb dX12_told_68 (of_decide_eq_true rfl) ?_
      have ho := Option.some.inj hfn
      subst ho
      exact zrl hx hb hr hK hP hD hS hQ rfl hlocks dX12_told_77
    refine lv_if_eq (tgt := 58) hx hb dX12_told_28 (of_decide_eq_true rfl) (fun c_16 => ?_) (fun c_16 => ?_)
    · have hfn := (if_pos c_16).symm.trans hfn
      exact jp_12 () H locs ls hfn hP hD hS (lv_sub hl [0, 1, 2] rfl)
    have hfn := (if_neg c_16).symm.trans hfn
    refine lv_iload_n hx hb dX12_told_31 rfl (lv_at hl 2 rfl) ?_
    obtain ⟨j_17, ej_17, hfn⟩ := zj_g hfn
    have jp_17 : ∀ (s_17 : Int32) (H : Heap) (locs : List Loc) (ls : Array Slot), j_17 s_17 = some o → va_P (dC, dI) vwCl [(h0, .inr (12, zO a0 b0 c0)), zVi (a0 17) k1 2 f1, zVi (a0 19) k2 28 f2, zVi (a0 21) k3 28 f3, zVi (a0 20) k4 28 f4, zVl (a0 23) k5 28 f5, zVl (a0 22) k6 28 f6] H → va_D A [(h0, .inr (12, zO a0 b0 c0)), zVi (a0 17) k1 2 f1, zVi (a0 19) k2 28 f2, zVi (a0 21) k3 28 f3, zVi (a0 20) k4 28 f4, zVl (a0 23) k5 28 f5, zVl (a0 22) k6 28 f6] → va_S A s.heap H locs → lv_has ls 3 [(0, .ref h0), (1, .int p1), (2, .int p2)] → W p l e (headSpec wsX12_told ({ frames := 2, cells := 0, slots := 0, locals := 46 })).room s m ([.ref h0, .int p1, .int p2] : List Value).toArray below meth c H locs 0 0 Q (F0 m 50 ls [.int s_17]) := by
      intro s_17 H locs ls hfn hP hD hS hl
      have hfn := zj_s ej_17 hfn
      refine lv_iconst (v := (-1)) hx hb dX12_told_50 zci_m1 ?_
      refine lv_icmp_eq (tgt := 58) hx hb dX12_told_51 (of_decide_eq_true rfl) (fun c_18 => ?_) (fun c_18 => ?_)
      · have hfn := (if_pos c_18).symm.trans hfn
        exact jp_12 () H locs ls hfn hP hD hS (lv_sub hl [0, 1, 2] rfl)
      have hfn := (if_neg c_18).symm.trans hfn
      refine lv_ldc2 (v := (-1000000000000000)) hx hb hown (hts (.constantLong RX12 381 (-1000000000000000)) zw_X12_told_1077) dX12_told_54 ?_
      have ho := Option.some.inj hfn
      subst ho
      exact zrl hx hb hr hK hP hD hS hQ rfl hlocks dX12_told_57
    refine lv_if_ne (tgt := 44) hx hb dX12_told_32 (of_decide_eq_true rfl) (fun c_19 => ?_) (fun c_19 => ?_)
    · have hfn := (if_neg c_19).symm.trans hfn
      refine lv_aload_n hx hb dX12_told_44 rfl (lv_at hl 0 rfl) ?_
      refine va_get (D := (dC, dI)) (ci := 12) (v := .ref (a0 21)) (C := RX12) (T := TX12) (N := 67) hx hb hts zn_X12_told_X12 hown hK hP 0 rfl rfl 21 (of_decide_eq_true rfl) (hts (.fieldLink RX12 74 "ShortEnoughModel" "second" "[I") zw_X12_told_1080) (fun _ h9 => h9) rfl dX12_told_45 ?_
      refine lv_iload_n hx hb dX12_told_48 rfl (lv_at hl 1 rfl) ?_
      refine va_iald hx hb hK hP 3 2 rfl rfl h_11 dX12_told_49 ?_
      exact jp_17 (f3 p1.toNatClampNeg) H locs ls hfn hP hD hS (lv_sub hl [0, 1, 2] rfl)
    have hfn := (if_pos c_19).symm.trans hfn
    refine lv_aload_n hx hb dX12_told_35 rfl (lv_at hl 0 rfl) ?_
    refine va_get (D := (dC, dI)) (ci := 12) (v := .ref (a0 20)) (C := RX12) (T := TX12) (N := 67) hx hb hts zn_X12_told_X12 hown hK hP 0 rfl rfl 20 (of_decide_eq_true rfl) (hts (.fieldLink RX12 71 "ShortEnoughModel" "first" "[I") zw_X12_told_1081) (fun _ h9 => h9) rfl dX12_told_36 ?_
    refine lv_iload_n hx hb dX12_told_39 rfl (lv_at hl 1 rfl) ?_
    refine va_iald hx hb hK hP 4 3 rfl rfl h_11 dX12_told_40 ?_
    refine lv_goto (tgt := 50) hx hb dX12_told_41 (of_decide_eq_true rfl) ?_
    exact jp_17 (f4 p1.toNatClampNeg) H locs ls hfn hP hD hS (lv_sub hl [0, 1, 2] rfl)
  have hfn := (if_pos c_10).symm.trans hfn
  refine lv_ldc2 (v := (-1000000000000000)) hx hb hown (hts (.constantLong RX12 381 (-1000000000000000)) zw_X12_told_1077) dX12_told_18 ?_
  have ho := Option.some.inj hfn
  subst ho
  exact zrl hx hb hr hK hP hD hS hQ rfl hlocks dX12_told_21
theorem zw_X12_rounded_1084 : Cond.constantLong RX12 383 (2) ∈ wsX12_rounded := List.mem_of_getElem? (i := 1) (by decide +kernel)
set_option maxHeartbeats 4000000 in
set_option maxRecDepth 100000 in
theorem zf_X12_rounded (l : Launch) (dC : Nat → ClassId) (dI : Nat → Nat → Nat) (j0 : Int64) (j1 : Int64) (o : Int64) (hfn : fn_X12_rounded j0 j1 = some o) (sz : Nat) : zMl l yX12_rounded wsX12_rounded ({ frames := 1, cells := 0, slots := 0, locals := 25 }) (dC, dI) vwCl [.long j0, .long j1] [] [] (fun r _ => r = o) [] [] sz := by
  refine zgol (cc := cX12_rounded) (maxL := 4) (ret := (some .long)) (C0 := RX12) (lv0 := [(0, .long j0), (2, .long j1)]) zpl_X12 rfl rfl rfl (Nat.le_of_ble_eq_true rfl) ?_
  intro p e s m below meth c A ls Q hx hb hr hts hown hlocks hml hP hK hD hA hS hl hQ
  unfold fn_X12_rounded at hfn
  refine lv_ldc2 (v := 2) hx hb hown (hts (.constantLong RX12 383 (2)) zw_X12_rounded_1084) dX12_rounded_0 ?_
  refine lv_lload_n hx hb dX12_rounded_3 rfl (lv_at hl 0 rfl) ?_
  refine lv_lmul hx hb dX12_rounded_4 ?_
  refine lv_lload_n hx hb dX12_rounded_5 rfl (lv_at hl 1 rfl) ?_
  refine lv_ladd hx hb dX12_rounded_6 ?_
  refine lv_ldc2 (v := 2) hx hb hown (hts (.constantLong RX12 383 (2)) zw_X12_rounded_1084) dX12_rounded_7 ?_
  refine lv_lload_n hx hb dX12_rounded_10 rfl (lv_at hl 1 rfl) ?_
  refine lv_lmul hx hb dX12_rounded_11 ?_
  obtain ⟨o_1, hqo_1, hfn⟩ := zb_s hfn
  refine zcSl (rest := []) (pc' := 15) (ws' := []) hP hK hD hS hA ⟨hx, hb, hml, hown, hts⟩ (zf_X12_floor l dC dI (((2 : Int64) * j0) + j1) ((2 : Int64) * j1) o_1 hqo_1 s.heap.size) (va_cwS 2 hts gX12_rounded_X12_floor rfl rfl rfl zhd_X12_floor.2 ⟨Nat.le_of_ble_eq_true rfl, Nat.le_of_ble_eq_true rfl⟩) [] rfl (of_decide_eq_true rfl) [] rfl rfl hl.1 rfl (Nat.le_of_ble_eq_true rfl) dX12_rounded_12 ⟨Nat.le_of_ble_eq_true rfl, Nat.le_of_ble_eq_true rfl⟩ [] (of_decide_eq_true rfl) (of_decide_eq_true rfl) rfl rfl rfl (fun H locs hP hD hS => ?_)
  refine lv_lload_n hx hb dX12_rounded_15 rfl (lv_at hl 1 rfl) ?_
  refine lv_lmul hx hb dX12_rounded_16 ?_
  have ho := Option.some.inj hfn
  subst ho
  exact zrl hx hb hr hK hP hD hS hQ rfl hlocks dX12_rounded_17
theorem zw_X12_roundedProduct_1085 : Cond.constantLong RX12 383 (2) ∈ wsX12_roundedProduct := List.mem_of_getElem? (i := 1) (by decide +kernel)
theorem zw_X12_roundedProduct_1086 : Cond.constantLong RX12 388 (1000) ∈ wsX12_roundedProduct := List.mem_of_getElem? (i := 2) (by decide +kernel)
theorem zw_X12_roundedProduct_1087 : Cond.constantLong RX12 390 (2000) ∈ wsX12_roundedProduct := List.mem_of_getElem? (i := 3) (by decide +kernel)
set_option maxHeartbeats 4000000 in
set_option maxRecDepth 100000 in
theorem zf_X12_roundedProduct (l : Launch) (dC : Nat → ClassId) (dI : Nat → Nat → Nat) (j0 : Int64) (j1 : Int64) (j2 : Int64) (o : Int64) (hfn : fn_X12_roundedProduct j0 j1 j2 = some o) (sz : Nat) : zMl l yX12_roundedProduct wsX12_roundedProduct ({ frames := 1, cells := 0, slots := 0, locals := 25 }) (dC, dI) vwCl [.long j0, .long j1, .long j2] [] [] (fun r _ => r = o) [] [] sz := by
  refine zgol (cc := cX12_roundedProduct) (maxL := 6) (ret := (some .long)) (C0 := RX12) (lv0 := [(0, .long j0), (2, .long j1), (4, .long j2)]) zpl_X12 rfl rfl rfl (Nat.le_of_ble_eq_true rfl) ?_
  intro p e s m below meth c A ls Q hx hb hr hts hown hlocks hml hP hK hD hA hS hl hQ
  unfold fn_X12_roundedProduct at hfn
  refine lv_ldc2 (v := 2) hx hb hown (hts (.constantLong RX12 383 (2)) zw_X12_roundedProduct_1085) dX12_roundedProduct_0 ?_
  refine lv_lload_n hx hb dX12_roundedProduct_3 rfl (lv_at hl 0 rfl) ?_
  refine lv_lmul hx hb dX12_roundedProduct_4 ?_
  refine lv_lload_n hx hb dX12_roundedProduct_5 rfl (lv_at hl 1 rfl) ?_
  refine lv_lmul hx hb dX12_roundedProduct_6 ?_
  refine lv_ldc2 (v := 1000) hx hb hown (hts (.constantLong RX12 388 (1000)) zw_X12_roundedProduct_1086) dX12_roundedProduct_7 ?_
  refine lv_lload hx hb dX12_roundedProduct_10 (lv_at hl 2 rfl) ?_
  refine lv_lmul hx hb dX12_roundedProduct_12 ?_
  refine lv_ladd hx hb dX12_roundedProduct_13 ?_
  refine lv_ldc2 (v := 2000) hx hb hown (hts (.constantLong RX12 390 (2000)) zw_X12_roundedProduct_1087) dX12_roundedProduct_14 ?_
  refine lv_lload hx hb dX12_roundedProduct_17 (lv_at hl 2 rfl) ?_
  refine lv_lmul hx hb dX12_roundedProduct_19 ?_
  obtain ⟨o_1, hqo_1, hfn⟩ := zb_s hfn
  refine zcSl (rest := []) (pc' := 23) (ws' := []) hP hK hD hS hA ⟨hx, hb, hml, hown, hts⟩ (zf_X12_floor l dC dI ((((2 : Int64) * j0) * j1) + ((1000 : Int64) * j2)) ((2000 : Int64) * j2) o_1 hqo_1 s.heap.size) (va_cwS 2 hts gX12_roundedProduct_X12_floor rfl rfl rfl zhd_X12_floor.2 ⟨Nat.le_of_ble_eq_true rfl, Nat.le_of_ble_eq_true rfl⟩) [] rfl (of_decide_eq_true rfl) [] rfl rfl hl.1 rfl (Nat.le_of_ble_eq_true rfl) dX12_roundedProduct_20 ⟨Nat.le_of_ble_eq_true rfl, Nat.le_of_ble_eq_true rfl⟩ [] (of_decide_eq_true rfl) (of_decide_eq_true rfl) rfl rfl rfl (fun H locs hP hD hS => ?_)
  refine lv_lload hx hb dX12_roundedProduct_23 (lv_at hl 2 rfl) ?_
  refine lv_lmul hx hb dX12_roundedProduct_25 ?_
  have ho := Option.some.inj hfn
  subst ho
  exact zrl hx hb hr hK hP hD hS hQ rfl hlocks dX12_roundedProduct_26

set_option maxHeartbeats 4000000 in
set_option maxRecDepth 100000 in
theorem zf_X12_two (l : Launch) (dC : Nat → ClassId) (dI : Nat → Nat → Nat) (p0 : Int32) (j1 : Int64) (j2 : Int64) (j3 : Int64) (o : Int64) (hfn : fn_X12_two p0 j1 j2 j3 = some o) (sz : Nat) : zMl l yX12_two wsX12_two ({ frames := 2, cells := 0, slots := 0, locals := 50 }) (dC, dI) vwCl [.int p0, .long j1, .long j2, .long j3] [] [] (fun r _ => r = o) [] [] sz := by
  refine zgol (cc := cX12_two) (maxL := 7) (ret := (some .long)) (C0 := RX12) (lv0 := [(0, .int p0), (1, .long j1), (3, .long j2), (5, .long j3)]) zpl_X12 rfl rfl rfl (Nat.le_of_ble_eq_true rfl) ?_
  intro p e s m below meth c A ls Q hx hb hr hts hown hlocks hml hP hK hD hA hS hl hQ
  unfold fn_X12_two at hfn
  refine lv_iload_n hx hb dX12_two_0 rfl (lv_at hl 0 rfl) ?_
  by_cases c_1 : p0 = 1
  · have hfn := (if_pos c_1).symm.trans hfn
    refine W.eq (g2 := F0 m 1 ls [.int 1]) (by rw [c_1]) ?_
    refine lv_tableIn (tgt := 32) (off := 31) hx hb dX12_two_1 (by decide +kernel) (by decide +kernel) (by decide +kernel) (of_decide_eq_true rfl) ?_
    refine lv_lload_n hx hb dX12_two_32 rfl (lv_at hl 1 rfl) ?_
    refine lv_lload_n hx hb dX12_two_33 rfl (lv_at hl 2 rfl) ?_
    refine lv_ladd hx hb dX12_two_34 ?_
    have ho := Option.some.inj hfn
    subst ho
    exact zrl hx hb hr hK hP hD hS hQ rfl hlocks dX12_two_35
  have hfn := (if_neg c_1).symm.trans hfn
  have oc_1 := zk_ne rfl (by decide +kernel : (1 : Int32).toInt = 1) c_1
  by_cases c_2 : p0 = 2
  · have hfn := (if_pos c_2).symm.trans hfn
    refine W.eq (g2 := F0 m 1 ls [.int 2]) (by rw [c_2]) ?_
    refine lv_tableIn (tgt := 36) (off := 35) hx hb dX12_two_1 (by decide +kernel) (by decide +kernel) (by decide +kernel) (of_decide_eq_true rfl) ?_
    refine lv_lload_n hx hb dX12_two_36 rfl (lv_at hl 1 rfl) ?_
    refine lv_lload_n hx hb dX12_two_37 rfl (lv_at hl 2 rfl) ?_
    refine lv_lsub hx hb dX12_two_38 ?_
    have ho := Option.some.inj hfn
    subst ho
    exact zrl hx hb hr hK hP hD hS hQ rfl hlocks dX12_two_39
  have hfn := (if_neg c_2).symm.trans hfn
  have oc_2 := zk_ne rfl (by decide +kernel : (2 : Int32).toInt = 2) c_2
  by_cases c_3 : p0 = 3
  · have hfn := (if_pos c_3).symm.trans hfn
    refine W.eq (g2 := F0 m 1 ls [.int 3]) (by rw [c_3]) ?_
    refine lv_tableIn (tgt := 40) (off := 39) hx hb dX12_two_1 (by decide +kernel) (by decide +kernel) (by decide +kernel) (of_decide_eq_true rfl) ?_
    refine lv_lload_n hx hb dX12_two_40 rfl (lv_at hl 1 rfl) ?_
    refine lv_lload_n hx hb dX12_two_41 rfl (lv_at hl 2 rfl) ?_
    refine lv_lload hx hb dX12_two_42 (lv_at hl 3 rfl) ?_
    obtain ⟨o_4, hqo_4, hfn⟩ := zb_s hfn
    refine zcSl (rest := []) (pc' := 47) (ws' := []) hP hK hD hS hA ⟨hx, hb, hml, hown, hts⟩ (zf_X12_roundedProduct l dC dI j1 j2 j3 o_4 hqo_4 s.heap.size) (va_cwS 3 hts gX12_two_X12_roundedProduct rfl rfl rfl zhd_X12_roundedProduct.2 ⟨Nat.le_of_ble_eq_true rfl, Nat.le_of_ble_eq_true rfl⟩) [] rfl (of_decide_eq_true rfl) [] rfl rfl hl.1 rfl (Nat.le_of_ble_eq_true rfl) dX12_two_44 ⟨Nat.le_of_ble_eq_true rfl, Nat.le_of_ble_eq_true rfl⟩ [] (of_decide_eq_true rfl) (of_decide_eq_true rfl) rfl rfl rfl (fun H locs hP hD hS => ?_)
    have ho := Option.some.inj hfn
    subst ho
    exact zrl hx hb hr hK hP hD hS hQ rfl hlocks dX12_two_47
  have hfn := (if_neg c_3).symm.trans hfn
  have oc_3 := zk_ne rfl (by decide +kernel : (3 : Int32).toInt = 3) c_3
  by_cases c_8 : p0 = 4
  · have hfn := (if_pos c_8).symm.trans hfn
    refine W.eq (g2 := F0 m 1 ls [.int 4]) (by rw [c_8]) ?_
    refine lv_tableIn (tgt := 48) (off := 47) hx hb dX12_two_1 (by decide +kernel) (by decide +kernel) (by decide +kernel) (of_decide_eq_true rfl) ?_
    refine lv_lload_n hx hb dX12_two_48 rfl (lv_at hl 1 rfl) ?_
    refine lv_lload_n hx hb dX12_two_49 rfl (lv_at hl 2 rfl) ?_
    obtain ⟨o_9, hqo_9, hfn⟩ := zb_s hfn
    refine zcSl (rest := []) (pc' := 53) (ws' := []) hP hK hD hS hA ⟨hx, hb, hml, hown, hts⟩ (zf_X12_lesser l dC dI j1 j2 o_9 hqo_9 s.heap.size) (va_cwS 2 hts gX12_two_X12_lesser rfl rfl rfl zhd_X12_lesser.2 ⟨Nat.le_of_ble_eq_true rfl, Nat.le_of_ble_eq_true rfl⟩) [] rfl (of_decide_eq_true rfl) [] rfl rfl hl.1 rfl (Nat.le_of_ble_eq_true rfl) dX12_two_50 ⟨Nat.le_of_ble_eq_true rfl, Nat.le_of_ble_eq_true rfl⟩ [] (of_decide_eq_true rfl) (of_decide_eq_true rfl) rfl rfl rfl (fun H locs hP hD hS => ?_)
    have ho := Option.some.inj hfn
    subst ho
    exact zrl hx hb hr hK hP hD hS hQ rfl hlocks dX12_two_53
  have hfn := (if_neg c_8).symm.trans hfn
  have oc_8 := zk_ne rfl (by decide +kernel : (4 : Int32).toInt = 4) c_8
  refine lv_tableOut (tgt := 54) hx hb dX12_two_1 (by omega) (of_decide_eq_true rfl) ?_
  refine lv_lload_n hx hb dX12_two_54 rfl (lv_at hl 1 rfl) ?_
  refine lv_lload_n hx hb dX12_two_55 rfl (lv_at hl 2 rfl) ?_
  obtain ⟨o_13, hqo_13, hfn⟩ := zb_s hfn
  refine zcSl (rest := []) (pc' := 59) (ws' := []) hP hK hD hS hA ⟨hx, hb, hml, hown, hts⟩ (zf_X12_greater l dC dI j1 j2 o_13 hqo_13 s.heap.size) (va_cwS 2 hts gX12_two_X12_greater rfl rfl rfl zhd_X12_greater.2 ⟨Nat.le_of_ble_eq_true rfl, Nat.le_of_ble_eq_true rfl⟩) [] rfl (of_decide_eq_true rfl) [] rfl rfl hl.1 rfl (Nat.le_of_ble_eq_true rfl) dX12_two_56 ⟨Nat.le_of_ble_eq_true rfl, Nat.le_of_ble_eq_true rfl⟩ [] (of_decide_eq_true rfl) (of_decide_eq_true rfl) rfl rfl rfl (fun H locs hP hD hS => ?_)
  have ho := Option.some.inj hfn
  subst ho
  exact zrl hx hb hr hK hP hD hS hQ rfl hlocks dX12_two_59
theorem zn_X12_lowOf_X12 : ∀ w ∈ wsX120, w ∈ wsX12_lowOf := fun _ h => List.mem_cons_of_mem _ (List.mem_append_right _ h)
theorem zw_X12_lowOf_1089 : Cond.fieldLink RX12 71 "ShortEnoughModel" "first" "[I" ∈ wsX12_lowOf := List.mem_of_getElem? (i := 2) (by decide +kernel)
theorem zw_X12_lowOf_1090 : Cond.fieldLink RX12 74 "ShortEnoughModel" "second" "[I" ∈ wsX12_lowOf := List.mem_of_getElem? (i := 1) (by decide +kernel)
theorem zw_X12_lowOf_1091 : Cond.fieldLink RX12 106 "ShortEnoughModel" "least" "[J" ∈ wsX12_lowOf := List.mem_of_getElem? (i := 5) (by decide +kernel)
theorem zw_X12_lowOf_1092 : Cond.fieldLink RX12 77 "ShortEnoughModel" "firstV" "[J" ∈ wsX12_lowOf := List.mem_of_getElem? (i := 4) (by decide +kernel)
theorem zw_X12_lowOf_1093 : Cond.fieldLink RX12 81 "ShortEnoughModel" "secondV" "[J" ∈ wsX12_lowOf := List.mem_of_getElem? (i := 3) (by decide +kernel)
set_option maxHeartbeats 4000000 in
set_option maxRecDepth 100000 in
theorem zf_X12_lowOf (l : Launch) (dC : Nat → ClassId) (dI : Nat → Nat → Nat) (h0 : Nat) (p1 : Int32) (p2 : Int32) (a0 : Nat → Nat) (b0 : Nat → Int32) (c0 : Nat → Int64) (k1 : Nat) (f1 : Nat → Int32) (k2 : Nat) (f2 : Nat → Int32) (k3 : Nat) (f3 : Nat → Int64) (k4 : Nat) (f4 : Nat → Int64) (k5 : Nat) (f5 : Nat → Int64) (o : Int64) (hfn : fn_X12_lowOf p1 p2 f1 f2 f3 f4 f5 = some o) (sz : Nat) : zMl l yX12_lowOf wsX12_lowOf ({ frames := 0, cells := 0, slots := 0, locals := 0 }) (dC, dI) vwCl [.ref h0, .int p1, .int p2] [(h0, .inr (12, zO a0 b0 c0)), zVi (a0 20) k1 28 f1, zVi (a0 21) k2 28 f2, zVl (a0 31) k3 14 f3, zVl (a0 22) k4 28 f4, zVl (a0 23) k5 28 f5] [(k1, .int), (k2, .int), (k3, .long), (k4, .long), (k5, .long)] (fun r _ => r = o) [(h0, .inr (12, zO a0 b0 c0)), zVi (a0 20) k1 28 f1, zVi (a0 21) k2 28 f2, zVl (a0 31) k3 14 f3, zVl (a0 22) k4 28 f4, zVl (a0 23) k5 28 f5] [(k1, .int), (k2, .int), (k3, .long), (k4, .long), (k5, .long)] sz := by
  refine zgol (cc := cX12_lowOf) (maxL := 4) (ret := (some .long)) (C0 := RX12) (lv0 := [(0, .ref h0), (1, .int p1), (2, .int p2)]) zpl_X12 rfl rfl rfl (Nat.le_of_ble_eq_true rfl) ?_
  intro p e s m below meth c A ls Q hx hb hr hts hown hlocks hml hP hK hD hA hS hl hQ
  unfold fn_X12_lowOf at hfn
  refine lv_iload_n hx hb dX12_lowOf_0 rfl (lv_at hl 2 rfl) ?_
  obtain ⟨j_1, ej_1, hfn⟩ := zj_g hfn
  have jp_1 : ∀ (s_1 : Int32) (H : Heap) (locs : List Loc) (ls : Array Slot), j_1 s_1 = some o → va_P (dC, dI) vwCl [(h0, .inr (12, zO a0 b0 c0)), zVi (a0 20) k1 28 f1, zVi (a0 21) k2 28 f2, zVl (a0 31) k3 14 f3, zVl (a0 22) k4 28 f4, zVl (a0 23) k5 28 f5] H → va_D A [(h0, .inr (12, zO a0 b0 c0)), zVi (a0 20) k1 28 f1, zVi (a0 21) k2 28 f2, zVl (a0 31) k3 14 f3, zVl (a0 22) k4 28 f4, zVl (a0 23) k5 28 f5] → va_S A s.heap H locs → lv_has ls 4 [(0, .ref h0), (1, .int p1), (2, .int p2)] → W p l e (headSpec wsX12_lowOf ({ frames := 0, cells := 0, slots := 0, locals := 0 })).room s m ([.ref h0, .int p1, .int p2] : List Value).toArray below meth c H locs 0 0 Q (F0 m 19 ls [.int s_1]) := by
    intro s_1 H locs ls hfn hP hD hS hl
    have hfn := zj_s ej_1 hfn
    refine lv_istore_n (lv' := [(3, .int s_1), (0, .ref h0), (1, .int p1), (2, .int p2)]) hx hb dX12_lowOf_19 rfl hl (of_decide_eq_true rfl) rfl (fun ls hl => ?_)
    refine lv_iload_n hx hb dX12_lowOf_20 rfl (lv_at hl 0 rfl) ?_
    refine lv_iconst (v := (-1)) hx hb dX12_lowOf_21 zci_m1 ?_
    refine lv_icmp_ne (tgt := 47) hx hb dX12_lowOf_22 (of_decide_eq_true rfl) (fun c_2 => ?_) (fun c_2 => ?_)
    · have hfn := (if_neg c_2).symm.trans hfn
      refine lv_aload_n hx hb dX12_lowOf_47 rfl (lv_at hl 1 rfl) ?_
      refine va_get (D := (dC, dI)) (ci := 12) (v := .ref (a0 31)) (C := RX12) (T := TX12) (N := 67) hx hb hts zn_X12_lowOf_X12 hown hK hP 0 rfl rfl 31 (of_decide_eq_true rfl) (hts (.fieldLink RX12 106 "ShortEnoughModel" "least" "[J") zw_X12_lowOf_1091) (fun _ h9 => h9) rfl dX12_lowOf_48 ?_
      refine lv_iload_n hx hb dX12_lowOf_51 rfl (lv_at hl 0 rfl) ?_
      obtain ⟨h_3, hfn⟩ := zg_s hfn
      refine va_lald hx hb hK hP 3 2 rfl rfl h_3 dX12_lowOf_52 ?_
      have ho := Option.some.inj hfn
      subst ho
      exact zrl hx hb hr hK hP hD hS hQ rfl hlocks dX12_lowOf_53
    have hfn := (if_pos c_2).symm.trans hfn
    refine lv_iload_n hx hb dX12_lowOf_25 rfl (lv_at hl 3 rfl) ?_
    refine lv_if_eq (tgt := 38) hx hb dX12_lowOf_26 (of_decide_eq_true rfl) (fun c_4 => ?_) (fun c_4 => ?_)
    · have hfn := (if_pos c_4).symm.trans hfn
      refine lv_aload_n hx hb dX12_lowOf_38 rfl (lv_at hl 1 rfl) ?_
      refine va_get (D := (dC, dI)) (ci := 12) (v := .ref (a0 22)) (C := RX12) (T := TX12) (N := 67) hx hb hts zn_X12_lowOf_X12 hown hK hP 0 rfl rfl 22 (of_decide_eq_true rfl) (hts (.fieldLink RX12 77 "ShortEnoughModel" "firstV" "[J") zw_X12_lowOf_1092) (fun _ h9 => h9) rfl dX12_lowOf_39 ?_
      refine lv_iload_n hx hb dX12_lowOf_42 rfl (lv_at hl 2 rfl) ?_
      obtain ⟨h_5, hfn⟩ := zg_s hfn
      refine va_lald hx hb hK hP 4 3 rfl rfl h_5 dX12_lowOf_43 ?_
      refine lv_goto (tgt := 53) hx hb dX12_lowOf_44 (of_decide_eq_true rfl) ?_
      have ho := Option.some.inj hfn
      subst ho
      exact zrl hx hb hr hK hP hD hS hQ rfl hlocks dX12_lowOf_53
    have hfn := (if_neg c_4).symm.trans hfn
    refine lv_aload_n hx hb dX12_lowOf_29 rfl (lv_at hl 1 rfl) ?_
    refine va_get (D := (dC, dI)) (ci := 12) (v := .ref (a0 23)) (C := RX12) (T := TX12) (N := 67) hx hb hts zn_X12_lowOf_X12 hown hK hP 0 rfl rfl 23 (of_decide_eq_true rfl) (hts (.fieldLink RX12 81 "ShortEnoughModel" "secondV" "[J") zw_X12_lowOf_1093) (fun _ h9 => h9) rfl dX12_lowOf_30 ?_
    refine lv_iload_n hx hb dX12_lowOf_33 rfl (lv_at hl 2 rfl) ?_
    obtain ⟨h_6, hfn⟩ := zg_s hfn
    refine va_lald hx hb hK hP 5 4 rfl rfl h_6 dX12_lowOf_34 ?_
    refine lv_goto (tgt := 53) hx hb dX12_lowOf_35 (of_decide_eq_true rfl) ?_
    have ho := Option.some.inj hfn
    subst ho
    exact zrl hx hb hr hK hP hD hS hQ rfl hlocks dX12_lowOf_53
  refine lv_if_eq (tgt := 13) hx hb dX12_lowOf_1 (of_decide_eq_true rfl) (fun c_7 => ?_) (fun c_7 => ?_)
  · have hfn := (if_pos c_7).symm.trans hfn
    refine lv_aload_n hx hb dX12_lowOf_13 rfl (lv_at hl 0 rfl) ?_
    refine va_get (D := (dC, dI)) (ci := 12) (v := .ref (a0 20)) (C := RX12) (T := TX12) (N := 67) hx hb hts zn_X12_lowOf_X12 hown hK hP 0 rfl rfl 20 (of_decide_eq_true rfl) (hts (.fieldLink RX12 71 "ShortEnoughModel" "first" "[I") zw_X12_lowOf_1089) (fun _ h9 => h9) rfl dX12_lowOf_14 ?_
    refine lv_iload_n hx hb dX12_lowOf_17 rfl (lv_at hl 1 rfl) ?_
    obtain ⟨h_8, hfn⟩ := zg_s hfn
    refine va_iald hx hb hK hP 1 0 rfl rfl h_8 dX12_lowOf_18 ?_
    exact jp_1 (f1 p1.toNatClampNeg) s.heap [] ls hfn hP hD hS (lv_sub hl [0, 1, 2] rfl)
  have hfn := (if_neg c_7).symm.trans hfn
  refine lv_aload_n hx hb dX12_lowOf_4 rfl (lv_at hl 0 rfl) ?_
  refine va_get (D := (dC, dI)) (ci := 12) (v := .ref (a0 21)) (C := RX12) (T := TX12) (N := 67) hx hb hts zn_X12_lowOf_X12 hown hK hP 0 rfl rfl 21 (of_decide_eq_true rfl) (hts (.fieldLink RX12 74 "ShortEnoughModel" "second" "[I") zw_X12_lowOf_1090) (fun _ h9 => h9) rfl dX12_lowOf_5 ?_
  refine lv_iload_n hx hb dX12_lowOf_8 rfl (lv_at hl 1 rfl) ?_
  obtain ⟨h_9, hfn⟩ := zg_s hfn
  refine va_iald hx hb hK hP 2 1 rfl rfl h_9 dX12_lowOf_9 ?_
  refine lv_goto (tgt := 19) hx hb dX12_lowOf_10 (of_decide_eq_true rfl) ?_
  exact jp_1 (f2 p1.toNatClampNeg) s.heap [] ls hfn hP hD hS (lv_sub hl [0, 1, 2] rfl)
theorem zn_X12_highOf_X12 : ∀ w ∈ wsX120, w ∈ wsX12_highOf := fun _ h => List.mem_cons_of_mem _ (List.mem_append_right _ h)
theorem zw_X12_highOf_1095 : Cond.fieldLink RX12 71 "ShortEnoughModel" "first" "[I" ∈ wsX12_highOf := List.mem_of_getElem? (i := 2) (by decide +kernel)
theorem zw_X12_highOf_1096 : Cond.fieldLink RX12 74 "ShortEnoughModel" "second" "[I" ∈ wsX12_highOf := List.mem_of_getElem? (i := 1) (by decide +kernel)
theorem zw_X12_highOf_1097 : Cond.fieldLink RX12 109 "ShortEnoughModel" "greatest" "[J" ∈ wsX12_highOf := List.mem_of_getElem? (i := 5) (by decide +kernel)
theorem zw_X12_highOf_1098 : Cond.fieldLink RX12 77 "ShortEnoughModel" "firstV" "[J" ∈ wsX12_highOf := List.mem_of_getElem? (i := 4) (by decide +kernel)
theorem zw_X12_highOf_1099 : Cond.fieldLink RX12 81 "ShortEnoughModel" "secondV" "[J" ∈ wsX12_highOf := List.mem_of_getElem? (i := 3) (by decide +kernel)
set_option maxHeartbeats 4000000 in
set_option maxRecDepth 100000 in
theorem zf_X12_highOf (l : Launch) (dC : Nat → ClassId) (dI : Nat → Nat → Nat) (h0 : Nat) (p1 : Int32) (p2 : Int32) (a0 : Nat → Nat) (b0 : Nat → Int32) (c0 : Nat → Int64) (k1 : Nat) (f1 : Nat → Int32) (k2 : Nat) (f2 : Nat → Int32) (k3 : Nat) (f3 : Nat → Int64) (k4 : Nat) (f4 : Nat → Int64) (k5 : Nat) (f5 : Nat → Int64) (o : Int64) (hfn : fn_X12_highOf p1 p2 f1 f2 f3 f4 f5 = some o) (sz : Nat) : zMl l yX12_highOf wsX12_highOf ({ frames := 0, cells := 0, slots := 0, locals := 0 }) (dC, dI) vwCl [.ref h0, .int p1, .int p2] [(h0, .inr (12, zO a0 b0 c0)), zVi (a0 20) k1 28 f1, zVi (a0 21) k2 28 f2, zVl (a0 32) k3 14 f3, zVl (a0 22) k4 28 f4, zVl (a0 23) k5 28 f5] [(k1, .int), (k2, .int), (k3, .long), (k4, .long), (k5, .long)] (fun r _ => r = o) [(h0, .inr (12, zO a0 b0 c0)), zVi (a0 20) k1 28 f1, zVi (a0 21) k2 28 f2, zVl (a0 32) k3 14 f3, zVl (a0 22) k4 28 f4, zVl (a0 23) k5 28 f5] [(k1, .int), (k2, .int), (k3, .long), (k4, .long), (k5, .long)] sz := by
  refine zgol (cc := cX12_highOf) (maxL := 4) (ret := (some .long)) (C0 := RX12) (lv0 := [(0, .ref h0), (1, .int p1), (2, .int p2)]) zpl_X12 rfl rfl rfl (Nat.le_of_ble_eq_true rfl) ?_
  intro p e s m below meth c A ls Q hx hb hr hts hown hlocks hml hP hK hD hA hS hl hQ
  unfold fn_X12_highOf at hfn
  refine lv_iload_n hx hb dX12_highOf_0 rfl (lv_at hl 2 rfl) ?_
  obtain ⟨j_1, ej_1, hfn⟩ := zj_g hfn
  have jp_1 : ∀ (s_1 : Int32) (H : Heap) (locs : List Loc) (ls : Array Slot), j_1 s_1 = some o → va_P (dC, dI) vwCl [(h0, .inr (12, zO a0 b0 c0)), zVi (a0 20) k1 28 f1, zVi (a0 21) k2 28 f2, zVl (a0 32) k3 14 f3, zVl (a0 22) k4 28 f4, zVl (a0 23) k5 28 f5] H → va_D A [(h0, .inr (12, zO a0 b0 c0)), zVi (a0 20) k1 28 f1, zVi (a0 21) k2 28 f2, zVl (a0 32) k3 14 f3, zVl (a0 22) k4 28 f4, zVl (a0 23) k5 28 f5] → va_S A s.heap H locs → lv_has ls 4 [(0, .ref h0), (1, .int p1), (2, .int p2)] → W p l e (headSpec wsX12_highOf ({ frames := 0, cells := 0, slots := 0, locals := 0 })).room s m ([.ref h0, .int p1, .int p2] : List Value).toArray below meth c H locs 0 0 Q (F0 m 19 ls [.int s_1]) := by
    intro s_1 H locs ls hfn hP hD hS hl
    have hfn := zj_s ej_1 hfn
    refine lv_istore_n (lv' := [(3, .int s_1), (0, .ref h0), (1, .int p1), (2, .int p2)]) hx hb dX12_highOf_19 rfl hl (of_decide_eq_true rfl) rfl (fun ls hl => ?_)
    refine lv_iload_n hx hb dX12_highOf_20 rfl (lv_at hl 0 rfl) ?_
    refine lv_iconst (v := (-1)) hx hb dX12_highOf_21 zci_m1 ?_
    refine lv_icmp_ne (tgt := 47) hx hb dX12_highOf_22 (of_decide_eq_true rfl) (fun c_2 => ?_) (fun c_2 => ?_)
    · have hfn := (if_neg c_2).symm.trans hfn
      refine lv_aload_n hx hb dX12_highOf_47 rfl (lv_at hl 1 rfl) ?_
      refine va_get (D := (dC, dI)) (ci := 12) (v := .ref (a0 32)) (C := RX12) (T := TX12) (N := 67) hx hb hts zn_X12_highOf_X12 hown hK hP 0 rfl rfl 32 (of_decide_eq_true rfl) (hts (.fieldLink RX12 109 "ShortEnoughModel" "greatest" "[J") zw_X12_highOf_1097) (fun _ h9 => h9) rfl dX12_highOf_48 ?_
      refine lv_iload_n hx hb dX12_highOf_51 rfl (lv_at hl 0 rfl) ?_
      obtain ⟨h_3, hfn⟩ := zg_s hfn
      refine va_lald hx hb hK hP 3 2 rfl rfl h_3 dX12_highOf_52 ?_
      have ho := Option.some.inj hfn
      subst ho
      exact zrl hx hb hr hK hP hD hS hQ rfl hlocks dX12_highOf_53
    have hfn := (if_pos c_2).symm.trans hfn
    refine lv_iload_n hx hb dX12_highOf_25 rfl (lv_at hl 3 rfl) ?_
    refine lv_if_eq (tgt := 38) hx hb dX12_highOf_26 (of_decide_eq_true rfl) (fun c_4 => ?_) (fun c_4 => ?_)
    · have hfn := (if_pos c_4).symm.trans hfn
      refine lv_aload_n hx hb dX12_highOf_38 rfl (lv_at hl 1 rfl) ?_
      refine va_get (D := (dC, dI)) (ci := 12) (v := .ref (a0 22)) (C := RX12) (T := TX12) (N := 67) hx hb hts zn_X12_highOf_X12 hown hK hP 0 rfl rfl 22 (of_decide_eq_true rfl) (hts (.fieldLink RX12 77 "ShortEnoughModel" "firstV" "[J") zw_X12_highOf_1098) (fun _ h9 => h9) rfl dX12_highOf_39 ?_
      refine lv_iload_n hx hb dX12_highOf_42 rfl (lv_at hl 2 rfl) ?_
      obtain ⟨h_5, hfn⟩ := zg_s hfn
      refine va_lald hx hb hK hP 4 3 rfl rfl h_5 dX12_highOf_43 ?_
      refine lv_goto (tgt := 53) hx hb dX12_highOf_44 (of_decide_eq_true rfl) ?_
      have ho := Option.some.inj hfn
      subst ho
      exact zrl hx hb hr hK hP hD hS hQ rfl hlocks dX12_highOf_53
    have hfn := (if_neg c_4).symm.trans hfn
    refine lv_aload_n hx hb dX12_highOf_29 rfl (lv_at hl 1 rfl) ?_
    refine va_get (D := (dC, dI)) (ci := 12) (v := .ref (a0 23)) (C := RX12) (T := TX12) (N := 67) hx hb hts zn_X12_highOf_X12 hown hK hP 0 rfl rfl 23 (of_decide_eq_true rfl) (hts (.fieldLink RX12 81 "ShortEnoughModel" "secondV" "[J") zw_X12_highOf_1099) (fun _ h9 => h9) rfl dX12_highOf_30 ?_
    refine lv_iload_n hx hb dX12_highOf_33 rfl (lv_at hl 2 rfl) ?_
    obtain ⟨h_6, hfn⟩ := zg_s hfn
    refine va_lald hx hb hK hP 5 4 rfl rfl h_6 dX12_highOf_34 ?_
    refine lv_goto (tgt := 53) hx hb dX12_highOf_35 (of_decide_eq_true rfl) ?_
    have ho := Option.some.inj hfn
    subst ho
    exact zrl hx hb hr hK hP hD hS hQ rfl hlocks dX12_highOf_53
  refine lv_if_eq (tgt := 13) hx hb dX12_highOf_1 (of_decide_eq_true rfl) (fun c_7 => ?_) (fun c_7 => ?_)
  · have hfn := (if_pos c_7).symm.trans hfn
    refine lv_aload_n hx hb dX12_highOf_13 rfl (lv_at hl 0 rfl) ?_
    refine va_get (D := (dC, dI)) (ci := 12) (v := .ref (a0 20)) (C := RX12) (T := TX12) (N := 67) hx hb hts zn_X12_highOf_X12 hown hK hP 0 rfl rfl 20 (of_decide_eq_true rfl) (hts (.fieldLink RX12 71 "ShortEnoughModel" "first" "[I") zw_X12_highOf_1095) (fun _ h9 => h9) rfl dX12_highOf_14 ?_
    refine lv_iload_n hx hb dX12_highOf_17 rfl (lv_at hl 1 rfl) ?_
    obtain ⟨h_8, hfn⟩ := zg_s hfn
    refine va_iald hx hb hK hP 1 0 rfl rfl h_8 dX12_highOf_18 ?_
    exact jp_1 (f1 p1.toNatClampNeg) s.heap [] ls hfn hP hD hS (lv_sub hl [0, 1, 2] rfl)
  have hfn := (if_neg c_7).symm.trans hfn
  refine lv_aload_n hx hb dX12_highOf_4 rfl (lv_at hl 0 rfl) ?_
  refine va_get (D := (dC, dI)) (ci := 12) (v := .ref (a0 21)) (C := RX12) (T := TX12) (N := 67) hx hb hts zn_X12_highOf_X12 hown hK hP 0 rfl rfl 21 (of_decide_eq_true rfl) (hts (.fieldLink RX12 74 "ShortEnoughModel" "second" "[I") zw_X12_highOf_1096) (fun _ h9 => h9) rfl dX12_highOf_5 ?_
  refine lv_iload_n hx hb dX12_highOf_8 rfl (lv_at hl 1 rfl) ?_
  obtain ⟨h_9, hfn⟩ := zg_s hfn
  refine va_iald hx hb hK hP 2 1 rfl rfl h_9 dX12_highOf_9 ?_
  refine lv_goto (tgt := 19) hx hb dX12_highOf_10 (of_decide_eq_true rfl) ?_
  exact jp_1 (f2 p1.toNatClampNeg) s.heap [] ls hfn hP hD hS (lv_sub hl [0, 1, 2] rfl)
