
set_option maxHeartbeats 4000000 in
set_option maxRecDepth 100000 in
theorem zf_X12_isIn (l : Launch) (dC : Nat → ClassId) (dI : Nat → Nat → Nat) (j0 : Int64) (j1 : Int64) (j2 : Int64) (o : Int32) (hfn : fn_X12_isIn j0 j1 j2 = some o) (sz : Nat) : zMi l yX12_isIn wsX12_isIn ({ frames := 0, cells := 0, slots := 0, locals := 0 }) (dC, dI) vwCl [.long j0, .long j1, .long j2] [] [] (fun r _ => r = o ∧ narrow .boolean (.int o) = .int o) [] [] sz := by
  refine zgoi (cc := cX12_isIn) (maxL := 6) (ret := (some .boolean)) (C0 := RX12) (lv0 := [(0, .long j0), (2, .long j1), (4, .long j2)]) zpl_X12 rfl rfl rfl (Nat.le_of_ble_eq_true rfl) ?_
  intro p e s m below meth c A ls Q hx hb hr hts hown hlocks hml hP hK hD hA hS hl hQ
  unfold fn_X12_isIn at hfn
  refine lv_lload_n hx hb dX12_isIn_0 rfl (lv_at hl 0 rfl) ?_
  refine lv_lload_n hx hb dX12_isIn_1 rfl (lv_at hl 1 rfl) ?_
  refine W.lcmp hx hb dX12_isIn_2 ?_
  refine lv_if_lt (tgt := 17) hx hb dX12_isIn_3 (of_decide_eq_true rfl) (fun c_1 => ?_) (fun c_1 => ?_)
  · have hfn := (if_pos c_1).symm.trans hfn
    refine lv_iconst (v := 0) hx hb dX12_isIn_17 zci_0 ?_
    have ho := Option.some.inj hfn
    subst ho
    exact zrz hx hb hr rfl hK hP hD hS hQ ⟨rfl, zB0⟩ hlocks dX12_isIn_18
  have hfn := (if_neg c_1).symm.trans hfn
  refine lv_lload_n hx hb dX12_isIn_6 rfl (lv_at hl 0 rfl) ?_
  refine lv_lload hx hb dX12_isIn_7 (lv_at hl 2 rfl) ?_
  refine W.lcmp hx hb dX12_isIn_9 ?_
  refine lv_if_gt (tgt := 17) hx hb dX12_isIn_10 (of_decide_eq_true rfl) (fun c_2 => ?_) (fun c_2 => ?_)
  · have hfn := (if_pos c_2).symm.trans hfn
    refine lv_iconst (v := 0) hx hb dX12_isIn_17 zci_0 ?_
    have ho := Option.some.inj hfn
    subst ho
    exact zrz hx hb hr rfl hK hP hD hS hQ ⟨rfl, zB0⟩ hlocks dX12_isIn_18
  have hfn := (if_neg c_2).symm.trans hfn
  refine lv_iconst (v := 1) hx hb dX12_isIn_13 zci_1 ?_
  refine lv_goto (tgt := 18) hx hb dX12_isIn_14 (of_decide_eq_true rfl) ?_
  have ho := Option.some.inj hfn
  subst ho
  exact zrz hx hb hr rfl hK hP hD hS hQ ⟨rfl, zB1⟩ hlocks dX12_isIn_18

set_option maxHeartbeats 4000000 in
set_option maxRecDepth 100000 in
theorem zf_X12_amount (l : Launch) (dC : Nat → ClassId) (dI : Nat → Nat → Nat) (j0 : Int64) (o : Int64) (hfn : fn_X12_amount j0 = some o) (sz : Nat) : zMl l yX12_amount wsX12_amount ({ frames := 0, cells := 0, slots := 0, locals := 0 }) (dC, dI) vwCl [.long j0] [] [] (fun r _ => r = o) [] [] sz := by
  refine zgol (cc := cX12_amount) (maxL := 2) (ret := (some .long)) (C0 := RX12) (lv0 := [(0, .long j0)]) zpl_X12 rfl rfl rfl (Nat.le_of_ble_eq_true rfl) ?_
  intro p e s m below meth c A ls Q hx hb hr hts hown hlocks hml hP hK hD hA hS hl hQ
  unfold fn_X12_amount at hfn
  refine lv_lload_n hx hb dX12_amount_0 rfl (lv_at hl 0 rfl) ?_
  refine lv_lconst (v := 0) hx hb dX12_amount_1 (by decide +kernel) ?_
  refine W.lcmp hx hb dX12_amount_2 ?_
  refine lv_if_ge (tgt := 11) hx hb dX12_amount_3 (of_decide_eq_true rfl) (fun c_1 => ?_) (fun c_1 => ?_)
  · have hfn := (if_pos c_1).symm.trans hfn
    refine lv_lload_n hx hb dX12_amount_11 rfl (lv_at hl 0 rfl) ?_
    have ho := Option.some.inj hfn
    subst ho
    exact zrl hx hb hr hK hP hD hS hQ rfl hlocks dX12_amount_12
  have hfn := (if_neg c_1).symm.trans hfn
  refine lv_lload_n hx hb dX12_amount_6 rfl (lv_at hl 0 rfl) ?_
  refine lv_lneg hx hb dX12_amount_7 ?_
  refine lv_goto (tgt := 12) hx hb dX12_amount_8 (of_decide_eq_true rfl) ?_
  have ho := Option.some.inj hfn
  subst ho
  exact zrl hx hb hr hK hP hD hS hQ rfl hlocks dX12_amount_12

set_option maxHeartbeats 4000000 in
set_option maxRecDepth 100000 in
theorem zf_X12_greater (l : Launch) (dC : Nat → ClassId) (dI : Nat → Nat → Nat) (j0 : Int64) (j1 : Int64) (o : Int64) (hfn : fn_X12_greater j0 j1 = some o) (sz : Nat) : zMl l yX12_greater wsX12_greater ({ frames := 0, cells := 0, slots := 0, locals := 0 }) (dC, dI) vwCl [.long j0, .long j1] [] [] (fun r _ => r = o) [] [] sz := by
  refine zgol (cc := cX12_greater) (maxL := 4) (ret := (some .long)) (C0 := RX12) (lv0 := [(0, .long j0), (2, .long j1)]) zpl_X12 rfl rfl rfl (Nat.le_of_ble_eq_true rfl) ?_
  intro p e s m below meth c A ls Q hx hb hr hts hown hlocks hml hP hK hD hA hS hl hQ
  unfold fn_X12_greater at hfn
  refine lv_lload_n hx hb dX12_greater_0 rfl (lv_at hl 0 rfl) ?_
  refine lv_lload_n hx hb dX12_greater_1 rfl (lv_at hl 1 rfl) ?_
  refine W.lcmp hx hb dX12_greater_2 ?_
  refine lv_if_le (tgt := 10) hx hb dX12_greater_3 (of_decide_eq_true rfl) (fun c_1 => ?_) (fun c_1 => ?_)
  · have hfn := (if_pos c_1).symm.trans hfn
    refine lv_lload_n hx hb dX12_greater_10 rfl (lv_at hl 1 rfl) ?_
    have ho := Option.some.inj hfn
    subst ho
    exact zrl hx hb hr hK hP hD hS hQ rfl hlocks dX12_greater_11
  have hfn := (if_neg c_1).symm.trans hfn
  refine lv_lload_n hx hb dX12_greater_6 rfl (lv_at hl 0 rfl) ?_
  refine lv_goto (tgt := 11) hx hb dX12_greater_7 (of_decide_eq_true rfl) ?_
  have ho := Option.some.inj hfn
  subst ho
  exact zrl hx hb hr hK hP hD hS hQ rfl hlocks dX12_greater_11

set_option maxHeartbeats 4000000 in
set_option maxRecDepth 100000 in
theorem zf_X12_lesser (l : Launch) (dC : Nat → ClassId) (dI : Nat → Nat → Nat) (j0 : Int64) (j1 : Int64) (o : Int64) (hfn : fn_X12_lesser j0 j1 = some o) (sz : Nat) : zMl l yX12_lesser wsX12_lesser ({ frames := 0, cells := 0, slots := 0, locals := 0 }) (dC, dI) vwCl [.long j0, .long j1] [] [] (fun r _ => r = o) [] [] sz := by
  refine zgol (cc := cX12_lesser) (maxL := 4) (ret := (some .long)) (C0 := RX12) (lv0 := [(0, .long j0), (2, .long j1)]) zpl_X12 rfl rfl rfl (Nat.le_of_ble_eq_true rfl) ?_
  intro p e s m below meth c A ls Q hx hb hr hts hown hlocks hml hP hK hD hA hS hl hQ
  unfold fn_X12_lesser at hfn
  refine lv_lload_n hx hb dX12_lesser_0 rfl (lv_at hl 0 rfl) ?_
  refine lv_lload_n hx hb dX12_lesser_1 rfl (lv_at hl 1 rfl) ?_
  refine W.lcmp hx hb dX12_lesser_2 ?_
  refine lv_if_ge (tgt := 10) hx hb dX12_lesser_3 (of_decide_eq_true rfl) (fun c_1 => ?_) (fun c_1 => ?_)
  · have hfn := (if_pos c_1).symm.trans hfn
    refine lv_lload_n hx hb dX12_lesser_10 rfl (lv_at hl 1 rfl) ?_
    have ho := Option.some.inj hfn
    subst ho
    exact zrl hx hb hr hK hP hD hS hQ rfl hlocks dX12_lesser_11
  have hfn := (if_neg c_1).symm.trans hfn
  refine lv_lload_n hx hb dX12_lesser_6 rfl (lv_at hl 0 rfl) ?_
  refine lv_goto (tgt := 11) hx hb dX12_lesser_7 (of_decide_eq_true rfl) ?_
  have ho := Option.some.inj hfn
  subst ho
  exact zrl hx hb hr hK hP hD hS hQ rfl hlocks dX12_lesser_11

set_option maxHeartbeats 4000000 in
set_option maxRecDepth 100000 in
theorem zf_X12_floor (l : Launch) (dC : Nat → ClassId) (dI : Nat → Nat → Nat) (j0 : Int64) (j1 : Int64) (o : Int64) (hfn : fn_X12_floor j0 j1 = some o) (sz : Nat) : zMl l yX12_floor wsX12_floor ({ frames := 0, cells := 0, slots := 0, locals := 0 }) (dC, dI) vwCl [.long j0, .long j1] [] [] (fun r _ => r = o) [] [] sz := by
  refine zgol (cc := cX12_floor) (maxL := 6) (ret := (some .long)) (C0 := RX12) (lv0 := [(0, .long j0), (2, .long j1)]) zpl_X12 rfl rfl rfl (Nat.le_of_ble_eq_true rfl) ?_
  intro p e s m below meth c A ls Q hx hb hr hts hown hlocks hml hP hK hD hA hS hl hQ
  unfold fn_X12_floor at hfn
  refine lv_lload_n hx hb dX12_floor_0 rfl (lv_at hl 0 rfl) ?_
  refine lv_lload_n hx hb dX12_floor_1 rfl (lv_at hl 1 rfl) ?_
  obtain ⟨h_1, hfn⟩ := zd_s hfn
  refine lv_ldiv hx hb dX12_floor_2 h_1 ?_
  refine lv_lstore (lv' := [(4, .long (j0 / j1)), (0, .long j0), (2, .long j1)]) hx hb dX12_floor_3 hl (of_decide_eq_true rfl) rfl (fun ls hl => ?_)
  refine lv_lload_n hx hb dX12_floor_5 rfl (lv_at hl 1 rfl) ?_
  refine lv_lload_n hx hb dX12_floor_6 rfl (lv_at hl 2 rfl) ?_
  obtain ⟨h_2, hfn⟩ := zd_s hfn
  refine lv_lrem hx hb dX12_floor_7 h_2 ?_
  refine lv_lconst (v := 0) hx hb dX12_floor_8 (by decide +kernel) ?_
  refine W.lcmp hx hb dX12_floor_9 ?_
  refine lv_if_eq (tgt := 26) hx hb dX12_floor_10 (of_decide_eq_true rfl) (fun c_3 => ?_) (fun c_3 => ?_)
  · have hfn := (if_pos c_3).symm.trans hfn
    refine lv_lload hx hb dX12_floor_26 (lv_at hl 0 rfl) ?_
    have ho := Option.some.inj hfn
    subst ho
    exact zrl hx hb hr hK hP hD hS hQ rfl hlocks dX12_floor_28
  have hfn := (if_neg c_3).symm.trans hfn
  refine lv_lload_n hx hb dX12_floor_13 rfl (lv_at hl 1 rfl) ?_
  refine lv_lconst (v := 0) hx hb dX12_floor_14 (by decide +kernel) ?_
  refine W.lcmp hx hb dX12_floor_15 ?_
  refine lv_if_ge (tgt := 26) hx hb dX12_floor_16 (of_decide_eq_true rfl) (fun c_4 => ?_) (fun c_4 => ?_)
  · have hfn := (if_pos c_4).symm.trans hfn
    refine lv_lload hx hb dX12_floor_26 (lv_at hl 0 rfl) ?_
    have ho := Option.some.inj hfn
    subst ho
    exact zrl hx hb hr hK hP hD hS hQ rfl hlocks dX12_floor_28
  have hfn := (if_neg c_4).symm.trans hfn
  refine lv_lload hx hb dX12_floor_19 (lv_at hl 0 rfl) ?_
  refine lv_lconst (v := 1) hx hb dX12_floor_21 (by decide +kernel) ?_
  refine lv_lsub hx hb dX12_floor_22 ?_
  refine lv_goto (tgt := 28) hx hb dX12_floor_23 (of_decide_eq_true rfl) ?_
  have ho := Option.some.inj hfn
  subst ho
  exact zrl hx hb hr hK hP hD hS hQ rfl hlocks dX12_floor_28
theorem zn_X12_refuses_X12 : ∀ w ∈ wsX120, w ∈ wsX12_refuses := fun _ h => List.mem_cons_of_mem _ (List.mem_append_right _ h)
theorem zw_X12_refuses_868 : Cond.fieldLink RX12 17 "ShortEnoughModel" "refused" "[I" ∈ wsX12_refuses := List.mem_of_getElem? (i := 1) (by decide +kernel)
set_option maxHeartbeats 4000000 in
set_option maxRecDepth 100000 in
theorem zf_X12_refuses (l : Launch) (dC : Nat → ClassId) (dI : Nat → Nat → Nat) (h0 : Nat) (p1 : Int32) (a0 : Nat → Nat) (b0 : Nat → Int32) (c0 : Nat → Int64) (k1 : Nat) (f1 : Nat → Int32) (o : Int32 × (Nat → Int32)) (hfn : fn_X12_refuses p1 f1 = some o) (sz : Nat) : zMi l yX12_refuses wsX12_refuses ({ frames := 0, cells := 0, slots := 0, locals := 0 }) (dC, dI) vwCl [.ref h0, .int p1] [(h0, .inr (12, zO a0 b0 c0)), zVi (a0 2) k1 5 f1] [(k1, .int)] (fun r _ => r = o.1) [(h0, .inr (12, zO a0 b0 c0)), zVi (a0 2) k1 5 o.2] [(k1, .int)] sz := by
  refine zgoi (cc := cX12_refuses) (maxL := 2) (ret := (some .int)) (C0 := RX12) (lv0 := [(0, .ref h0), (1, .int p1)]) zpl_X12 rfl rfl rfl (Nat.le_of_ble_eq_true rfl) ?_
  intro p e s m below meth c A ls Q hx hb hr hts hown hlocks hml hP hK hD hA hS hl hQ
  unfold fn_X12_refuses at hfn
  refine lv_aload_n hx hb dX12_refuses_0 rfl (lv_at hl 0 rfl) ?_
  refine va_get (D := (dC, dI)) (ci := 12) (v := .ref (a0 2)) (C := RX12) (T := TX12) (N := 67) hx hb hts zn_X12_refuses_X12 hown hK hP 0 rfl rfl 2 (of_decide_eq_true rfl) (hts (.fieldLink RX12 17 "ShortEnoughModel" "refused" "[I") zw_X12_refuses_868) (fun _ h9 => h9) rfl dX12_refuses_1 ?_
  refine lv_iload_n hx hb dX12_refuses_4 rfl (lv_at hl 1 rfl) ?_
  refine lv_dup2_11 hx hb dX12_refuses_5 rfl rfl ?_
  obtain ⟨h_1, hfn⟩ := zg_s hfn
  refine va_iald hx hb hK hP 1 0 rfl rfl h_1 dX12_refuses_6 ?_
  refine lv_iconst (v := 1) hx hb dX12_refuses_7 zci_1 ?_
  refine lv_iadd hx hb dX12_refuses_8 ?_
  refine va_iast hx hb hK hP hD hS 1 0 rfl rfl h_1 dX12_refuses_9 (fun H locs hP hD hS => ?_)
  have hP : va_P (dC, dI) vwCl [(h0, .inr (12, zO a0 b0 c0)), zVi (a0 2) k1 5 (upd f1 p1.toNatClampNeg ((f1 p1.toNatClampNeg) + 1))] H := hP
  have hD := zDW hD hP rfl
  refine lv_iconst (v := (-1)) hx hb dX12_refuses_10 zci_m1 ?_
  have ho := Option.some.inj hfn
  subst ho
  exact zri hx hb hr hK hP hD hS hQ rfl hlocks dX12_refuses_11
theorem zn_X12_isRefused_X12 : ∀ w ∈ wsX120, w ∈ wsX12_isRefused := fun _ h => List.mem_cons_of_mem _ (List.mem_append_right _ h)
theorem zw_X12_isRefused_870 : Cond.fieldLink RX12 17 "ShortEnoughModel" "refused" "[I" ∈ wsX12_isRefused := List.mem_of_getElem? (i := 1) (by decide +kernel)
set_option maxHeartbeats 4000000 in
set_option maxRecDepth 100000 in
theorem zf_X12_isRefused (l : Launch) (dC : Nat → ClassId) (dI : Nat → Nat → Nat) (h0 : Nat) (p1 : Int32) (a0 : Nat → Nat) (b0 : Nat → Int32) (c0 : Nat → Int64) (k1 : Nat) (f1 : Nat → Int32) (o : Int32 × (Nat → Int32)) (hfn : fn_X12_isRefused p1 f1 = some o) (sz : Nat) : zMi l yX12_isRefused wsX12_isRefused ({ frames := 0, cells := 0, slots := 0, locals := 0 }) (dC, dI) vwCl [.ref h0, .int p1] [(h0, .inr (12, zO a0 b0 c0)), zVi (a0 2) k1 5 f1] [(k1, .int)] (fun r _ => r = o.1 ∧ narrow .boolean (.int o.1) = .int o.1) [(h0, .inr (12, zO a0 b0 c0)), zVi (a0 2) k1 5 o.2] [(k1, .int)] sz := by
  refine zgoi (cc := cX12_isRefused) (maxL := 2) (ret := (some .boolean)) (C0 := RX12) (lv0 := [(0, .ref h0), (1, .int p1)]) zpl_X12 rfl rfl rfl (Nat.le_of_ble_eq_true rfl) ?_
  intro p e s m below meth c A ls Q hx hb hr hts hown hlocks hml hP hK hD hA hS hl hQ
  unfold fn_X12_isRefused at hfn
  refine lv_aload_n hx hb dX12_isRefused_0 rfl (lv_at hl 0 rfl) ?_
  refine va_get (D := (dC, dI)) (ci := 12) (v := .ref (a0 2)) (C := RX12) (T := TX12) (N := 67) hx hb hts zn_X12_isRefused_X12 hown hK hP 0 rfl rfl 2 (of_decide_eq_true rfl) (hts (.fieldLink RX12 17 "ShortEnoughModel" "refused" "[I") zw_X12_isRefused_870) (fun _ h9 => h9) rfl dX12_isRefused_1 ?_
  refine lv_iload_n hx hb dX12_isRefused_4 rfl (lv_at hl 1 rfl) ?_
  refine lv_dup2_11 hx hb dX12_isRefused_5 rfl rfl ?_
  obtain ⟨h_1, hfn⟩ := zg_s hfn
  refine va_iald hx hb hK hP 1 0 rfl rfl h_1 dX12_isRefused_6 ?_
  refine lv_iconst (v := 1) hx hb dX12_isRefused_7 zci_1 ?_
  refine lv_iadd hx hb dX12_isRefused_8 ?_
  refine va_iast hx hb hK hP hD hS 1 0 rfl rfl h_1 dX12_isRefused_9 (fun H locs hP hD hS => ?_)
  have hP : va_P (dC, dI) vwCl [(h0, .inr (12, zO a0 b0 c0)), zVi (a0 2) k1 5 (upd f1 p1.toNatClampNeg ((f1 p1.toNatClampNeg) + 1))] H := hP
  have hD := zDW hD hP rfl
  refine lv_iconst (v := 0) hx hb dX12_isRefused_10 zci_0 ?_
  have ho := Option.some.inj hfn
  subst ho
  exact zrz hx hb hr rfl hK hP hD hS hQ ⟨rfl, zB0⟩ hlocks dX12_isRefused_11
theorem zn_X12_lays_X12 : ∀ w ∈ wsX120, w ∈ wsX12_lays := fun _ h => List.mem_cons_of_mem _ (List.mem_append_right _ h)
theorem zw_X12_lays_872 : Cond.fieldLink RX12 7 "ShortEnoughModel" "tape" "[I" ∈ wsX12_lays := List.mem_of_getElem? (i := 1) (by decide +kernel)
theorem zw_X12_lays_873 : Cond.fieldLink RX12 13 "ShortEnoughModel" "taped" "I" ∈ wsX12_lays := List.mem_of_getElem? (i := 2) (by decide +kernel)
set_option maxHeartbeats 4000000 in
set_option maxRecDepth 100000 in
theorem zf_X12_lays (l : Launch) (dC : Nat → ClassId) (dI : Nat → Nat → Nat) (h0 : Nat) (p1 : Int32) (a0 : Nat → Nat) (b0 : Nat → Int32) (c0 : Nat → Int64) (k1 : Nat) (f1 : Nat → Int32) (o : Int32 × (Nat → Int32)) (hfn : fn_X12_lays p1 (b0 1) f1 = some o) (sz : Nat) : zMv l yX12_lays wsX12_lays ({ frames := 0, cells := 0, slots := 0, locals := 0 }) (dC, dI) vwCl [.ref h0, .int p1] [(h0, .inr (12, zO a0 b0 c0)), zVi (a0 0) k1 1200 f1] [(k1, .int)] (fun _ => True) [(h0, .inr (12, zO a0 (zI b0 1 o.1) c0)), zVi (a0 0) k1 1200 o.2] [(k1, .int)] sz := by
  refine zgov (cc := cX12_lays) (maxL := 3) (ret := none) (C0 := RX12) (lv0 := [(0, .ref h0), (1, .int p1)]) zpl_X12 rfl rfl rfl (Nat.le_of_ble_eq_true rfl) ?_
  intro p e s m below meth c A ls Q hx hb hr hts hown hlocks hml hP hK hD hA hS hl hQ
  unfold fn_X12_lays at hfn
  refine lv_iconst (v := 0) hx hb dX12_lays_0 zci_0 ?_
  refine lv_istore_n (lv' := [(2, .int 0), (0, .ref h0), (1, .int p1)]) hx hb dX12_lays_1 rfl hl (of_decide_eq_true rfl) rfl (fun ls hl => ?_)
  obtain ⟨bd_1, ebd_1, hfn⟩ := zl_g hfn
  have lp_1 : ∀ (n : Nat) (s_1 : Int32 × (Nat → Int32)) (H : Heap) (locs : List Loc) (ls : Array Slot), zl bd_1 n s_1 = some o → va_P (dC, dI) vwCl [(h0, .inr (12, zO a0 b0 c0)), zVi (a0 0) k1 1200 s_1.2] H → va_D A [(h0, .inr (12, zO a0 b0 c0)), zVi (a0 0) k1 1200 s_1.2] → va_S A s.heap H locs → lv_has ls 3 [(2, .int s_1.1), (0, .ref h0), (1, .int p1)] → W p l e (headSpec wsX12_lays ({ frames := 0, cells := 0, slots := 0, locals := 0 })).room s m ([.ref h0, .int p1] : List Value).toArray below meth c H locs 0 0 Q (F0 m 2 ls []) := by
    intro n
    induction n with
    | zero => exact fun _ _ _ _ hfn => (zl_0 hfn).elim
    | succ n ih_1 =>
      intro s_1 H locs ls hfn hP hD hS hl
      have hfn := zl_s ebd_1 hfn
      refine lv_iload_n hx hb dX12_lays_2 rfl (lv_at hl 0 rfl) ?_
      refine lv_iconst (v := 4) hx hb dX12_lays_3 zci_4 ?_
      refine lv_icmp_ge (tgt := 37) hx hb dX12_lays_4 (of_decide_eq_true rfl) (fun c_2 => ?_) (fun c_2 => ?_)
      · have hfn := (if_pos c_2).symm.trans hfn
        refine lv_aload_n hx hb dX12_lays_37 rfl (lv_at hl 1 rfl) ?_
        refine lv_dup hx hb dX12_lays_38 rfl ?_
        refine va_get (D := (dC, dI)) (ci := 12) (v := .int (b0 1)) (C := RX12) (T := TX12) (N := 67) hx hb hts zn_X12_lays_X12 hown hK hP 0 rfl rfl 1 (of_decide_eq_true rfl) (hts (.fieldLink RX12 13 "ShortEnoughModel" "taped" "I") zw_X12_lays_873) (fun _ h9 => h9) rfl dX12_lays_39 ?_
        refine lv_iconst (v := 4) hx hb dX12_lays_42 zci_4 ?_
        refine lv_iadd hx hb dX12_lays_43 ?_
        refine va_put (D := (dC, dI)) (ci := 12) (v := .int ((b0 1) + 4)) (ty := .int) (C := RX12) (T := TX12) (N := 67) hx hb hts zn_X12_lays_X12 tyX12 tyX12_ok nmX12 hown hK hP hD hS 0 rfl rfl 1 (of_decide_eq_true rfl) (hts (.fieldLink RX12 13 "ShortEnoughModel" "taped" "I") zw_X12_lays_873) (fun _ h9 => h9) rfl (tyX12_ok 1 (of_decide_eq_true rfl)) rfl rfl (Nat.le_of_ble_eq_true rfl) dX12_lays_44 (fun H locs hP hD hS => ?_)
        have hP : va_P (dC, dI) vwCl [(h0, .inr (12, zO a0 (zI b0 1 ((b0 1) + 4)) c0)), zVi (a0 0) k1 1200 s_1.2] H := hP
        have hD := zDW hD hP rfl
        have ho := Option.some.inj hfn
        subst ho
        exact zrv hx hb hr hK hP hD hS hQ trivial hlocks dX12_lays_47
      have hfn := (if_neg c_2).symm.trans hfn
      refine lv_aload_n hx hb dX12_lays_7 rfl (lv_at hl 1 rfl) ?_
      refine va_get (D := (dC, dI)) (ci := 12) (v := .ref (a0 0)) (C := RX12) (T := TX12) (N := 67) hx hb hts zn_X12_lays_X12 hown hK hP 0 rfl rfl 0 (of_decide_eq_true rfl) (hts (.fieldLink RX12 7 "ShortEnoughModel" "tape" "[I") zw_X12_lays_872) (fun _ h9 => h9) rfl dX12_lays_8 ?_
      refine lv_aload_n hx hb dX12_lays_11 rfl (lv_at hl 1 rfl) ?_
      refine va_get (D := (dC, dI)) (ci := 12) (v := .int (b0 1)) (C := RX12) (T := TX12) (N := 67) hx hb hts zn_X12_lays_X12 hown hK hP 0 rfl rfl 1 (of_decide_eq_true rfl) (hts (.fieldLink RX12 13 "ShortEnoughModel" "taped" "I") zw_X12_lays_873) (fun _ h9 => h9) rfl dX12_lays_12 ?_
      refine lv_iload_n hx hb dX12_lays_15 rfl (lv_at hl 0 rfl) ?_
      refine lv_iadd hx hb dX12_lays_16 ?_
      refine lv_iload_n hx hb dX12_lays_17 rfl (lv_at hl 2 rfl) ?_
      refine lv_bipush (v := 24) hx hb dX12_lays_18 zcb_24 ?_
      refine lv_bipush (v := 8) hx hb dX12_lays_20 zcb_8 ?_
      refine lv_iload_n hx hb dX12_lays_22 rfl (lv_at hl 0 rfl) ?_
      refine lv_imul hx hb dX12_lays_23 ?_
      refine lv_isub hx hb dX12_lays_24 ?_
      refine lv_ishr hx hb dX12_lays_25 ?_
      refine lv_sipush (v := 255) hx hb dX12_lays_26 zcs_255 ?_
      refine lv_iand hx hb dX12_lays_29 ?_
      obtain ⟨h_3, hfn⟩ := zg_s hfn
      refine va_iast hx hb hK hP hD hS 1 0 rfl rfl h_3 dX12_lays_30 (fun H locs hP hD hS => ?_)
      obtain ⟨g_4, eg_4⟩ : ∃ g : Nat → Int32, g = (upd s_1.2 ((b0 1) + s_1.1).toNatClampNeg ((p1 >>> ((24 - (8 * s_1.1)) &&& 31)) &&& 255)) := ⟨_, rfl⟩
      have hfn := zn_s hfn eg_4
      have hP : va_P (dC, dI) vwCl [(h0, .inr (12, zO a0 b0 c0)), zVi (a0 0) k1 1200 g_4] H := by rw [eg_4]; exact hP
      have hD : va_D A [(h0, .inr (12, zO a0 b0 c0)), zVi (a0 0) k1 1200 g_4] := by rw [eg_4]; exact hD
      refine lv_iinc (v := (s_1.1 + 1)) (lv' := [(2, .int (s_1.1 + 1)), (0, .ref h0), (1, .int p1)]) hx hb dX12_lays_31 hl (k := 0) rfl rfl (of_decide_eq_true rfl) rfl (fun ls hl => ?_)
      refine lv_goto (tgt := 2) hx hb dX12_lays_34 (of_decide_eq_true rfl) ?_
      exact ih_1 ((s_1.1 + 1), g_4) H locs ls hfn hP hD hS (lv_sub hl [0, 1, 2] rfl)
  exact lp_1 _ (0, f1) s.heap [] ls hfn hP hD hS (lv_sub hl [0, 1, 2] rfl)
theorem zn_X12_feed_X12 : ∀ w ∈ wsX120, w ∈ wsX12_feed := fun _ h => List.mem_cons_of_mem _ (List.mem_append_right _ h)
theorem zw_X12_feed_875 : Cond.fieldLink RX12 13 "ShortEnoughModel" "taped" "I" ∈ wsX12_feed := List.mem_of_getElem? (i := 1) (by decide +kernel)
set_option maxHeartbeats 4000000 in
set_option maxRecDepth 100000 in
theorem zf_X12_feed (l : Launch) (dC : Nat → ClassId) (dI : Nat → Nat → Nat) (h0 : Nat) (p1 : Int32) (p2 : Int32) (p3 : Int32) (p4 : Int32) (p5 : Int32) (a0 : Nat → Nat) (b0 : Nat → Int32) (c0 : Nat → Int64) (k1 : Nat) (f1 : Nat → Int32) (k2 : Nat) (f2 : Nat → Int32) (o : Int32 × Int32 × (Nat → Int32) × (Nat → Int32)) (hfn : fn_X12_feed p1 p2 p3 p4 p5 (b0 1) f1 f2 = some o) (sz : Nat) : zMi l yX12_feed wsX12_feed ({ frames := 1, cells := 0, slots := 0, locals := 22 }) (dC, dI) vwCl [.ref h0, .int p1, .int p2, .int p3, .int p4, .int p5] [(h0, .inr (12, zO a0 b0 c0)), zVi (a0 0) k1 1200 f1, zVi (a0 2) k2 5 f2] [(k1, .int), (k2, .int)] (fun r _ => r = o.1) [(h0, .inr (12, zO a0 (zI b0 1 o.2.1) c0)), zVi (a0 0) k1 1200 o.2.2.1, zVi (a0 2) k2 5 o.2.2.2] [(k1, .int), (k2, .int)] sz := by
  refine zgoi (cc := cX12_feed) (maxL := 6) (ret := (some .int)) (C0 := RX12) (lv0 := [(0, .ref h0), (1, .int p1), (2, .int p2), (3, .int p3), (4, .int p4), (5, .int p5)]) zpl_X12 rfl rfl rfl (Nat.le_of_ble_eq_true rfl) ?_
  intro p e s m below meth c A ls Q hx hb hr hts hown hlocks hml hP hK hD hA hS hl hQ
  unfold fn_X12_feed at hfn
  refine lv_aload_n hx hb dX12_feed_0 rfl (lv_at hl 0 rfl) ?_
  refine va_get (D := (dC, dI)) (ci := 12) (v := .int (b0 1)) (C := RX12) (T := TX12) (N := 67) hx hb hts zn_X12_feed_X12 hown hK hP 0 rfl rfl 1 (of_decide_eq_true rfl) (hts (.fieldLink RX12 13 "ShortEnoughModel" "taped" "I") zw_X12_feed_875) (fun _ h9 => h9) rfl dX12_feed_1 ?_
  refine lv_bipush (v := 20) hx hb dX12_feed_4 zcb_20 ?_
  refine lv_iadd hx hb dX12_feed_6 ?_
  refine lv_sipush (v := 1200) hx hb dX12_feed_7 zcs_1200 ?_
  refine lv_icmp_le (tgt := 19) hx hb dX12_feed_10 (of_decide_eq_true rfl) (fun c_1 => ?_) (fun c_1 => ?_)
  · have hfn := (if_pos c_1).symm.trans hfn
    refine lv_aload_n hx hb dX12_feed_19 rfl (lv_at hl 0 rfl) ?_
    refine lv_iload_n hx hb dX12_feed_20 rfl (lv_at hl 1 rfl) ?_
    obtain ⟨o_2, hqo_2, hfn⟩ := zb_s hfn
    refine zcVv (ci := 12) (rest := []) (pc' := 24) (ws' := [(h0, .inr (12, zO a0 (zI b0 1 o_2.1) c0)), zVi (a0 0) k1 1200 o_2.2, zVi (a0 2) k2 5 f2]) hP hK hD hS hA ⟨hx, hb, hml, hown, hts⟩ (zf_X12_lays l dC dI h0 p1 a0 b0 c0 k1 f1 o_2 hqo_2 s.heap.size) (cwV 1 hts gX12_feed_X12_lays rfl rfl rfl zhd_X12_lays ⟨Nat.le_of_ble_eq_true rfl, Nat.le_of_ble_eq_true rfl⟩) [0, 1] rfl (of_decide_eq_true rfl) [0] rfl rfl rfl rfl hl.1 rfl (Nat.le_of_ble_eq_true rfl) dX12_feed_21 ⟨Nat.le_of_ble_eq_true rfl, Nat.le_of_ble_eq_true rfl⟩ [some 0, some 1] (of_decide_eq_true rfl) (of_decide_eq_true rfl) rfl rfl rfl (fun H locs hP hD hS => ?_)
    refine lv_aload_n hx hb dX12_feed_24 rfl (lv_at hl 0 rfl) ?_
    refine lv_iload_n hx hb dX12_feed_25 rfl (lv_at hl 2 rfl) ?_
    obtain ⟨o_6, hqo_6, hfn⟩ := zb_s hfn
    refine zcVv (ci := 12) (rest := []) (pc' := 29) (ws' := [(h0, .inr (12, zO a0 (zI b0 1 o_6.1) c0)), zVi (a0 0) k1 1200 o_6.2, zVi (a0 2) k2 5 f2]) hP hK hD hS hA ⟨hx, hb, hml, hown, hts⟩ (zf_X12_lays l dC dI h0 p2 a0 (zI b0 1 o_2.1) c0 k1 o_2.2 o_6 hqo_6 H.size) (cwV 1 hts gX12_feed_X12_lays rfl rfl rfl zhd_X12_lays ⟨Nat.le_of_ble_eq_true rfl, Nat.le_of_ble_eq_true rfl⟩) [0, 1] rfl (of_decide_eq_true rfl) [0] rfl rfl rfl rfl hl.1 rfl (Nat.le_of_ble_eq_true rfl) dX12_feed_26 ⟨Nat.le_of_ble_eq_true rfl, Nat.le_of_ble_eq_true rfl⟩ [some 0, some 1] (of_decide_eq_true rfl) (of_decide_eq_true rfl) rfl rfl rfl (fun H locs hP hD hS => ?_)
    refine lv_aload_n hx hb dX12_feed_29 rfl (lv_at hl 0 rfl) ?_
    refine lv_iload_n hx hb dX12_feed_30 rfl (lv_at hl 3 rfl) ?_
    obtain ⟨o_10, hqo_10, hfn⟩ := zb_s hfn
    refine zcVv (ci := 12) (rest := []) (pc' := 34) (ws' := [(h0, .inr (12, zO a0 (zI b0 1 o_10.1) c0)), zVi (a0 0) k1 1200 o_10.2, zVi (a0 2) k2 5 f2]) hP hK hD hS hA ⟨hx, hb, hml, hown, hts⟩ (zf_X12_lays l dC dI h0 p3 a0 (zI b0 1 o_6.1) c0 k1 o_6.2 o_10 hqo_10 H.size) (cwV 1 hts gX12_feed_X12_lays rfl rfl rfl zhd_X12_lays ⟨Nat.le_of_ble_eq_true rfl, Nat.le_of_ble_eq_true rfl⟩) [0, 1] rfl (of_decide_eq_true rfl) [0] rfl rfl rfl rfl hl.1 rfl (Nat.le_of_ble_eq_true rfl) dX12_feed_31 ⟨Nat.le_of_ble_eq_true rfl, Nat.le_of_ble_eq_true rfl⟩ [some 0, some 1] (of_decide_eq_true rfl) (of_decide_eq_true rfl) rfl rfl rfl (fun H locs hP hD hS => ?_)
    refine lv_aload_n hx hb dX12_feed_34 rfl (lv_at hl 0 rfl) ?_
    refine lv_iload hx hb dX12_feed_35 (lv_at hl 4 rfl) ?_
    obtain ⟨o_14, hqo_14, hfn⟩ := zb_s hfn
    refine zcVv (ci := 12) (rest := []) (pc' := 40) (ws' := [(h0, .inr (12, zO a0 (zI b0 1 o_14.1) c0)), zVi (a0 0) k1 1200 o_14.2, zVi (a0 2) k2 5 f2]) hP hK hD hS hA ⟨hx, hb, hml, hown, hts⟩ (zf_X12_lays l dC dI h0 p4 a0 (zI b0 1 o_10.1) c0 k1 o_10.2 o_14 hqo_14 H.size) (cwV 1 hts gX12_feed_X12_lays rfl rfl rfl zhd_X12_lays ⟨Nat.le_of_ble_eq_true rfl, Nat.le_of_ble_eq_true rfl⟩) [0, 1] rfl (of_decide_eq_true rfl) [0] rfl rfl rfl rfl hl.1 rfl (Nat.le_of_ble_eq_true rfl) dX12_feed_37 ⟨Nat.le_of_ble_eq_true rfl, Nat.le_of_ble_eq_true rfl⟩ [some 0, some 1] (of_decide_eq_true rfl) (of_decide_eq_true rfl) rfl rfl rfl (fun H locs hP hD hS => ?_)
    refine lv_aload_n hx hb dX12_feed_40 rfl (lv_at hl 0 rfl) ?_
    refine lv_iload hx hb dX12_feed_41 (lv_at hl 5 rfl) ?_
    obtain ⟨o_18, hqo_18, hfn⟩ := zb_s hfn
    refine zcVv (ci := 12) (rest := []) (pc' := 46) (ws' := [(h0, .inr (12, zO a0 (zI b0 1 o_18.1) c0)), zVi (a0 0) k1 1200 o_18.2, zVi (a0 2) k2 5 f2]) hP hK hD hS hA ⟨hx, hb, hml, hown, hts⟩ (zf_X12_lays l dC dI h0 p5 a0 (zI b0 1 o_14.1) c0 k1 o_14.2 o_18 hqo_18 H.size) (cwV 1 hts gX12_feed_X12_lays rfl rfl rfl zhd_X12_lays ⟨Nat.le_of_ble_eq_true rfl, Nat.le_of_ble_eq_true rfl⟩) [0, 1] rfl (of_decide_eq_true rfl) [0] rfl rfl rfl rfl hl.1 rfl (Nat.le_of_ble_eq_true rfl) dX12_feed_43 ⟨Nat.le_of_ble_eq_true rfl, Nat.le_of_ble_eq_true rfl⟩ [some 0, some 1] (of_decide_eq_true rfl) (of_decide_eq_true rfl) rfl rfl rfl (fun H locs hP hD hS => ?_)
    refine lv_aload_n hx hb dX12_feed_46 rfl (lv_at hl 0 rfl) ?_
    refine va_get (D := (dC, dI)) (ci := 12) (v := .int o_18.1) (C := RX12) (T := TX12) (N := 67) hx hb hts zn_X12_feed_X12 hown hK hP 0 rfl rfl 1 (of_decide_eq_true rfl) (hts (.fieldLink RX12 13 "ShortEnoughModel" "taped" "I") zw_X12_feed_875) (fun _ h9 => h9) rfl dX12_feed_47 ?_
    have ho := Option.some.inj hfn
    subst ho
    exact zri hx hb hr hK hP hD hS hQ rfl hlocks dX12_feed_50
  have hfn := (if_neg c_1).symm.trans hfn
  refine lv_aload_n hx hb dX12_feed_13 rfl (lv_at hl 0 rfl) ?_
  refine lv_iconst (v := 0) hx hb dX12_feed_14 zci_0 ?_
  obtain ⟨o_22, hqo_22, hfn⟩ := zb_s hfn
  refine zcVi (ci := 12) (rest := []) (pc' := 18) (ws' := [(h0, .inr (12, zO a0 b0 c0)), zVi (a0 0) k1 1200 f1, zVi (a0 2) k2 5 o_22.2]) hP hK hD hS hA ⟨hx, hb, hml, hown, hts⟩ (zf_X12_refuses l dC dI h0 0 a0 b0 c0 k2 f2 o_22 hqo_22 s.heap.size) (cwV 1 hts gX12_feed_X12_refuses rfl rfl rfl zhd_X12_refuses ⟨Nat.le_of_ble_eq_true rfl, Nat.le_of_ble_eq_true rfl⟩) [0, 2] rfl (of_decide_eq_true rfl) [1] rfl rfl rfl rfl hl.1 rfl (Nat.le_of_ble_eq_true rfl) dX12_feed_15 ⟨Nat.le_of_ble_eq_true rfl, Nat.le_of_ble_eq_true rfl⟩ [some 0, none, some 1] (of_decide_eq_true rfl) (of_decide_eq_true rfl) rfl rfl rfl (fun H locs hP hD hS => ?_)
  have ho := Option.some.inj hfn
  subst ho
  exact zri hx hb hr hK hP hD hS hQ rfl hlocks dX12_feed_18
theorem zn_X12_end_X12 : ∀ w ∈ wsX120, w ∈ wsX12_end := fun _ h => List.mem_cons_of_mem _ (List.mem_append_right _ h)
theorem zw_X12_end_877 : Cond.fieldLink RX12 13 "ShortEnoughModel" "taped" "I" ∈ wsX12_end := List.mem_of_getElem? (i := 1) (by decide +kernel)
set_option maxHeartbeats 4000000 in
set_option maxRecDepth 100000 in
theorem zf_X12_end (l : Launch) (dC : Nat → ClassId) (dI : Nat → Nat → Nat) (h0 : Nat) (p1 : Int32) (a0 : Nat → Nat) (b0 : Nat → Int32) (c0 : Nat → Int64) (k1 : Nat) (f1 : Nat → Int32) (o : Int32 × Int32 × (Nat → Int32)) (hfn : fn_X12_end p1 (b0 1) f1 = some o) (sz : Nat) : zMi l yX12_end wsX12_end ({ frames := 1, cells := 0, slots := 0, locals := 21 }) (dC, dI) vwCl [.ref h0, .int p1] [(h0, .inr (12, zO a0 b0 c0)), zVi (a0 2) k1 5 f1] [(k1, .int)] (fun r _ => r = o.1 ∧ narrow .boolean (.int o.1) = .int o.1) [(h0, .inr (12, zO a0 (zI b0 1 o.2.1) c0)), zVi (a0 2) k1 5 o.2.2] [(k1, .int)] sz := by
  refine zgoi (cc := cX12_end) (maxL := 2) (ret := (some .boolean)) (C0 := RX12) (lv0 := [(0, .ref h0), (1, .int p1)]) zpl_X12 rfl rfl rfl (Nat.le_of_ble_eq_true rfl) ?_
  intro p e s m below meth c A ls Q hx hb hr hts hown hlocks hml hP hK hD hA hS hl hQ
  unfold fn_X12_end at hfn
  refine lv_iload_n hx hb dX12_end_0 rfl (lv_at hl 1 rfl) ?_
  refine lv_if_lt (tgt := 12) hx hb dX12_end_1 (of_decide_eq_true rfl) (fun c_1 => ?_) (fun c_1 => ?_)
  · have hfn := (if_pos c_1).symm.trans hfn
    refine lv_aload_n hx hb dX12_end_12 rfl (lv_at hl 0 rfl) ?_
    refine lv_iconst (v := 0) hx hb dX12_end_13 zci_0 ?_
    obtain ⟨o_2, hqo_2, hfn⟩ := zb_s hfn
    refine zcVb (ci := 12) (rest := []) (pc' := 17) (ws' := [(h0, .inr (12, zO a0 b0 c0)), zVi (a0 2) k1 5 o_2.2]) hP hK hD hS hA ⟨hx, hb, hml, hown, hts⟩ (zf_X12_isRefused l dC dI h0 0 a0 b0 c0 k1 f1 o_2 hqo_2 s.heap.size) (cwV 1 hts gX12_end_X12_isRefused rfl rfl rfl zhd_X12_isRefused ⟨Nat.le_of_ble_eq_true rfl, Nat.le_of_ble_eq_true rfl⟩) [0, 1] rfl (of_decide_eq_true rfl) [0] rfl rfl rfl rfl hl.1 rfl (Nat.le_of_ble_eq_true rfl) dX12_end_14 ⟨Nat.le_of_ble_eq_true rfl, Nat.le_of_ble_eq_true rfl⟩ [some 0, some 1] (of_decide_eq_true rfl) (of_decide_eq_true rfl) rfl rfl rfl (fun H locs hw_5n hP hD hS => ?_)
    have ho := Option.some.inj hfn
    subst ho
    exact zrz hx hb hr hw_5n hK hP hD hS hQ ⟨rfl, hw_5n⟩ hlocks dX12_end_17
  have hfn := (if_neg c_1).symm.trans hfn
  refine lv_iload_n hx hb dX12_end_4 rfl (lv_at hl 1 rfl) ?_
  refine lv_aload_n hx hb dX12_end_5 rfl (lv_at hl 0 rfl) ?_
  refine va_get (D := (dC, dI)) (ci := 12) (v := .int (b0 1)) (C := RX12) (T := TX12) (N := 67) hx hb hts zn_X12_end_X12 hown hK hP 0 rfl rfl 1 (of_decide_eq_true rfl) (hts (.fieldLink RX12 13 "ShortEnoughModel" "taped" "I") zw_X12_end_877) (fun _ h9 => h9) rfl dX12_end_6 ?_
  refine lv_icmp_le (tgt := 18) hx hb dX12_end_9 (of_decide_eq_true rfl) (fun c_6 => ?_) (fun c_6 => ?_)
  · have hfn := (if_pos c_6).symm.trans hfn
    refine lv_aload_n hx hb dX12_end_18 rfl (lv_at hl 0 rfl) ?_
    refine lv_iload_n hx hb dX12_end_19 rfl (lv_at hl 1 rfl) ?_
    refine va_put (D := (dC, dI)) (ci := 12) (v := .int p1) (ty := .int) (C := RX12) (T := TX12) (N := 67) hx hb hts zn_X12_end_X12 tyX12 tyX12_ok nmX12 hown hK hP hD hS 0 rfl rfl 1 (of_decide_eq_true rfl) (hts (.fieldLink RX12 13 "ShortEnoughModel" "taped" "I") zw_X12_end_877) (fun _ h9 => h9) rfl (tyX12_ok 1 (of_decide_eq_true rfl)) rfl rfl (Nat.le_of_ble_eq_true rfl) dX12_end_20 (fun H locs hP hD hS => ?_)
    have hP : va_P (dC, dI) vwCl [(h0, .inr (12, zO a0 (zI b0 1 p1) c0)), zVi (a0 2) k1 5 f1] H := hP
    have hD := zDW hD hP rfl
    refine lv_iconst (v := 1) hx hb dX12_end_23 zci_1 ?_
    have ho := Option.some.inj hfn
    subst ho
    exact zrz hx hb hr rfl hK hP hD hS hQ ⟨rfl, zB1⟩ hlocks dX12_end_24
  have hfn := (if_neg c_6).symm.trans hfn
  refine lv_aload_n hx hb dX12_end_12 rfl (lv_at hl 0 rfl) ?_
  refine lv_iconst (v := 0) hx hb dX12_end_13 zci_0 ?_
  obtain ⟨o_7, hqo_7, hfn⟩ := zb_s hfn
  refine zcVb (ci := 12) (rest := []) (pc' := 17) (ws' := [(h0, .inr (12, zO a0 b0 c0)), zVi (a0 2) k1 5 o_7.2]) hP hK hD hS hA ⟨hx, hb, hml, hown, hts⟩ (zf_X12_isRefused l dC dI h0 0 a0 b0 c0 k1 f1 o_7 hqo_7 s.heap.size) (cwV 1 hts gX12_end_X12_isRefused rfl rfl rfl zhd_X12_isRefused ⟨Nat.le_of_ble_eq_true rfl, Nat.le_of_ble_eq_true rfl⟩) [0, 1] rfl (of_decide_eq_true rfl) [0] rfl rfl rfl rfl hl.1 rfl (Nat.le_of_ble_eq_true rfl) dX12_end_14 ⟨Nat.le_of_ble_eq_true rfl, Nat.le_of_ble_eq_true rfl⟩ [some 0, some 1] (of_decide_eq_true rfl) (of_decide_eq_true rfl) rfl rfl rfl (fun H locs hw_10n hP hD hS => ?_)
  have ho := Option.some.inj hfn
  subst ho
  exact zrz hx hb hr hw_10n hK hP hD hS hQ ⟨rfl, hw_10n⟩ hlocks dX12_end_17
theorem zn_X12_byteAt_X12 : ∀ w ∈ wsX120, w ∈ wsX12_byteAt := fun _ h => List.mem_cons_of_mem _ (List.mem_append_right _ h)
theorem zw_X12_byteAt_879 : Cond.fieldLink RX12 26 "ShortEnoughModel" "size" "I" ∈ wsX12_byteAt := List.mem_of_getElem? (i := 1) (by decide +kernel)
theorem zw_X12_byteAt_880 : Cond.fieldLink RX12 7 "ShortEnoughModel" "tape" "[I" ∈ wsX12_byteAt := List.mem_of_getElem? (i := 2) (by decide +kernel)
set_option maxHeartbeats 4000000 in
set_option maxRecDepth 100000 in
theorem zf_X12_byteAt (l : Launch) (dC : Nat → ClassId) (dI : Nat → Nat → Nat) (h0 : Nat) (p1 : Int32) (a0 : Nat → Nat) (b0 : Nat → Int32) (c0 : Nat → Int64) (k1 : Nat) (f1 : Nat → Int32) (o : Int32) (hfn : fn_X12_byteAt p1 (b0 5) f1 = some o) (sz : Nat) : zMi l yX12_byteAt wsX12_byteAt ({ frames := 0, cells := 0, slots := 0, locals := 0 }) (dC, dI) vwCl [.ref h0, .int p1] [(h0, .inr (12, zO a0 b0 c0)), zVi (a0 0) k1 1200 f1] [(k1, .int)] (fun r _ => r = o) [(h0, .inr (12, zO a0 b0 c0)), zVi (a0 0) k1 1200 f1] [(k1, .int)] sz := by
  refine zgoi (cc := cX12_byteAt) (maxL := 2) (ret := (some .int)) (C0 := RX12) (lv0 := [(0, .ref h0), (1, .int p1)]) zpl_X12 rfl rfl rfl (Nat.le_of_ble_eq_true rfl) ?_
  intro p e s m below meth c A ls Q hx hb hr hts hown hlocks hml hP hK hD hA hS hl hQ
  unfold fn_X12_byteAt at hfn
  refine lv_iload_n hx hb dX12_byteAt_0 rfl (lv_at hl 1 rfl) ?_
  refine lv_if_lt (tgt := 21) hx hb dX12_byteAt_1 (of_decide_eq_true rfl) (fun c_1 => ?_) (fun c_1 => ?_)
  · have hfn := (if_pos c_1).symm.trans hfn
    refine lv_iconst (v := (-1)) hx hb dX12_byteAt_21 zci_m1 ?_
    have ho := Option.some.inj hfn
    subst ho
    exact zri hx hb hr hK hP hD hS hQ rfl hlocks dX12_byteAt_22
  have hfn := (if_neg c_1).symm.trans hfn
  refine lv_iload_n hx hb dX12_byteAt_4 rfl (lv_at hl 1 rfl) ?_
  refine lv_aload_n hx hb dX12_byteAt_5 rfl (lv_at hl 0 rfl) ?_
  refine va_get (D := (dC, dI)) (ci := 12) (v := .int (b0 5)) (C := RX12) (T := TX12) (N := 67) hx hb hts zn_X12_byteAt_X12 hown hK hP 0 rfl rfl 5 (of_decide_eq_true rfl) (hts (.fieldLink RX12 26 "ShortEnoughModel" "size" "I") zw_X12_byteAt_879) (fun _ h9 => h9) rfl dX12_byteAt_6 ?_
  refine lv_icmp_ge (tgt := 21) hx hb dX12_byteAt_9 (of_decide_eq_true rfl) (fun c_2 => ?_) (fun c_2 => ?_)
  · have hfn := (if_pos c_2).symm.trans hfn
    refine lv_iconst (v := (-1)) hx hb dX12_byteAt_21 zci_m1 ?_
    have ho := Option.some.inj hfn
    subst ho
    exact zri hx hb hr hK hP hD hS hQ rfl hlocks dX12_byteAt_22
  have hfn := (if_neg c_2).symm.trans hfn
  refine lv_aload_n hx hb dX12_byteAt_12 rfl (lv_at hl 0 rfl) ?_
  refine va_get (D := (dC, dI)) (ci := 12) (v := .ref (a0 0)) (C := RX12) (T := TX12) (N := 67) hx hb hts zn_X12_byteAt_X12 hown hK hP 0 rfl rfl 0 (of_decide_eq_true rfl) (hts (.fieldLink RX12 7 "ShortEnoughModel" "tape" "[I") zw_X12_byteAt_880) (fun _ h9 => h9) rfl dX12_byteAt_13 ?_
  refine lv_iload_n hx hb dX12_byteAt_16 rfl (lv_at hl 1 rfl) ?_
  obtain ⟨h_3, hfn⟩ := zg_s hfn
  refine va_iald hx hb hK hP 1 0 rfl rfl h_3 dX12_byteAt_17 ?_
  refine lv_goto (tgt := 22) hx hb dX12_byteAt_18 (of_decide_eq_true rfl) ?_
  have ho := Option.some.inj hfn
  subst ho
  exact zri hx hb hr hK hP hD hS hQ rfl hlocks dX12_byteAt_22

set_option maxHeartbeats 4000000 in
set_option maxRecDepth 100000 in
theorem zf_X12_isSmall (l : Launch) (dC : Nat → ClassId) (dI : Nat → Nat → Nat) (h0 : Nat) (p1 : Int32) (a0 : Nat → Nat) (b0 : Nat → Int32) (c0 : Nat → Int64) (k1 : Nat) (f1 : Nat → Int32) (o : Int32) (hfn : fn_X12_isSmall p1 (b0 5) f1 = some o) (sz : Nat) : zMi l yX12_isSmall wsX12_isSmall ({ frames := 1, cells := 0, slots := 0, locals := 21 }) (dC, dI) vwCl [.ref h0, .int p1] [(h0, .inr (12, zO a0 b0 c0)), zVi (a0 0) k1 1200 f1] [(k1, .int)] (fun r _ => r = o ∧ narrow .boolean (.int o) = .int o) [(h0, .inr (12, zO a0 b0 c0)), zVi (a0 0) k1 1200 f1] [(k1, .int)] sz := by
  refine zgoi (cc := cX12_isSmall) (maxL := 2) (ret := (some .boolean)) (C0 := RX12) (lv0 := [(0, .ref h0), (1, .int p1)]) zpl_X12 rfl rfl rfl (Nat.le_of_ble_eq_true rfl) ?_
  intro p e s m below meth c A ls Q hx hb hr hts hown hlocks hml hP hK hD hA hS hl hQ
  unfold fn_X12_isSmall at hfn
  refine lv_aload_n hx hb dX12_isSmall_0 rfl (lv_at hl 0 rfl) ?_
  refine lv_iload_n hx hb dX12_isSmall_1 rfl (lv_at hl 1 rfl) ?_
  obtain ⟨o_1, hqo_1, hfn⟩ := zb_s hfn
  refine zcVi (ci := 12) (rest := []) (pc' := 5) (ws' := [(h0, .inr (12, zO a0 b0 c0)), zVi (a0 0) k1 1200 f1]) hP hK hD hS hA ⟨hx, hb, hml, hown, hts⟩ (zf_X12_byteAt l dC dI h0 p1 a0 b0 c0 k1 f1 o_1 hqo_1 s.heap.size) (cwV 1 hts gX12_isSmall_X12_byteAt rfl rfl rfl zhd_X12_byteAt ⟨Nat.le_of_ble_eq_true rfl, Nat.le_of_ble_eq_true rfl⟩) [0, 1] rfl (of_decide_eq_true rfl) [0] rfl rfl rfl rfl hl.1 rfl (Nat.le_of_ble_eq_true rfl) dX12_isSmall_2 ⟨Nat.le_of_ble_eq_true rfl, Nat.le_of_ble_eq_true rfl⟩ [some 0, some 1] (of_decide_eq_true rfl) (of_decide_eq_true rfl) rfl rfl rfl (fun H locs hP hD hS => ?_)
  refine lv_bipush (v := 97) hx hb dX12_isSmall_5 zcb_97 ?_
  refine lv_icmp_lt (tgt := 24) hx hb dX12_isSmall_7 (of_decide_eq_true rfl) (fun c_5 => ?_) (fun c_5 => ?_)
  · have hfn := (if_pos c_5).symm.trans hfn
    refine lv_iconst (v := 0) hx hb dX12_isSmall_24 zci_0 ?_
    have ho := Option.some.inj hfn
    subst ho
    exact zrz hx hb hr rfl hK hP hD hS hQ ⟨rfl, zB0⟩ hlocks dX12_isSmall_25
  have hfn := (if_neg c_5).symm.trans hfn
  refine lv_aload_n hx hb dX12_isSmall_10 rfl (lv_at hl 0 rfl) ?_
  refine lv_iload_n hx hb dX12_isSmall_11 rfl (lv_at hl 1 rfl) ?_
  obtain ⟨o_6, hqo_6, hfn⟩ := zb_s hfn
  refine zcVi (ci := 12) (rest := []) (pc' := 15) (ws' := [(h0, .inr (12, zO a0 b0 c0)), zVi (a0 0) k1 1200 f1]) hP hK hD hS hA ⟨hx, hb, hml, hown, hts⟩ (zf_X12_byteAt l dC dI h0 p1 a0 b0 c0 k1 f1 o_6 hqo_6 H.size) (cwV 1 hts gX12_isSmall_X12_byteAt rfl rfl rfl zhd_X12_byteAt ⟨Nat.le_of_ble_eq_true rfl, Nat.le_of_ble_eq_true rfl⟩) [0, 1] rfl (of_decide_eq_true rfl) [0] rfl rfl rfl rfl hl.1 rfl (Nat.le_of_ble_eq_true rfl) dX12_isSmall_12 ⟨Nat.le_of_ble_eq_true rfl, Nat.le_of_ble_eq_true rfl⟩ [some 0, some 1] (of_decide_eq_true rfl) (of_decide_eq_true rfl) rfl rfl rfl (fun H locs hP hD hS => ?_)
  refine lv_bipush (v := 122) hx hb dX12_isSmall_15 zcb_122 ?_
  refine lv_icmp_gt (tgt := 24) hx hb dX12_isSmall_17 (of_decide_eq_true rfl) (fun c_10 => ?_) (fun c_10 => ?_)
  · have hfn := (if_pos c_10).symm.trans hfn
    refine lv_iconst (v := 0) hx hb dX12_isSmall_24 zci_0 ?_
    have ho := Option.some.inj hfn
    subst ho
    exact zrz hx hb hr rfl hK hP hD hS hQ ⟨rfl, zB0⟩ hlocks dX12_isSmall_25
  have hfn := (if_neg c_10).symm.trans hfn
  refine lv_iconst (v := 1) hx hb dX12_isSmall_20 zci_1 ?_
  refine lv_goto (tgt := 25) hx hb dX12_isSmall_21 (of_decide_eq_true rfl) ?_
  have ho := Option.some.inj hfn
  subst ho
  exact zrz hx hb hr rfl hK hP hD hS hQ ⟨rfl, zB1⟩ hlocks dX12_isSmall_25

set_option maxHeartbeats 4000000 in
set_option maxRecDepth 100000 in
theorem zf_X12_isDigit (l : Launch) (dC : Nat → ClassId) (dI : Nat → Nat → Nat) (h0 : Nat) (p1 : Int32) (a0 : Nat → Nat) (b0 : Nat → Int32) (c0 : Nat → Int64) (k1 : Nat) (f1 : Nat → Int32) (o : Int32) (hfn : fn_X12_isDigit p1 (b0 5) f1 = some o) (sz : Nat) : zMi l yX12_isDigit wsX12_isDigit ({ frames := 1, cells := 0, slots := 0, locals := 21 }) (dC, dI) vwCl [.ref h0, .int p1] [(h0, .inr (12, zO a0 b0 c0)), zVi (a0 0) k1 1200 f1] [(k1, .int)] (fun r _ => r = o ∧ narrow .boolean (.int o) = .int o) [(h0, .inr (12, zO a0 b0 c0)), zVi (a0 0) k1 1200 f1] [(k1, .int)] sz := by
  refine zgoi (cc := cX12_isDigit) (maxL := 2) (ret := (some .boolean)) (C0 := RX12) (lv0 := [(0, .ref h0), (1, .int p1)]) zpl_X12 rfl rfl rfl (Nat.le_of_ble_eq_true rfl) ?_
  intro p e s m below meth c A ls Q hx hb hr hts hown hlocks hml hP hK hD hA hS hl hQ
  unfold fn_X12_isDigit at hfn
  refine lv_aload_n hx hb dX12_isDigit_0 rfl (lv_at hl 0 rfl) ?_
  refine lv_iload_n hx hb dX12_isDigit_1 rfl (lv_at hl 1 rfl) ?_
  obtain ⟨o_1, hqo_1, hfn⟩ := zb_s hfn
  refine zcVi (ci := 12) (rest := []) (pc' := 5) (ws' := [(h0, .inr (12, zO a0 b0 c0)), zVi (a0 0) k1 1200 f1]) hP hK hD hS hA ⟨hx, hb, hml, hown, hts⟩ (zf_X12_byteAt l dC dI h0 p1 a0 b0 c0 k1 f1 o_1 hqo_1 s.heap.size) (cwV 1 hts gX12_isDigit_X12_byteAt rfl rfl rfl zhd_X12_byteAt ⟨Nat.le_of_ble_eq_true rfl, Nat.le_of_ble_eq_true rfl⟩) [0, 1] rfl (of_decide_eq_true rfl) [0] rfl rfl rfl rfl hl.1 rfl (Nat.le_of_ble_eq_true rfl) dX12_isDigit_2 ⟨Nat.le_of_ble_eq_true rfl, Nat.le_of_ble_eq_true rfl⟩ [some 0, some 1] (of_decide_eq_true rfl) (of_decide_eq_true rfl) rfl rfl rfl (fun H locs hP hD hS => ?_)
  refine lv_bipush (v := 48) hx hb dX12_isDigit_5 zcb_48 ?_
  refine lv_icmp_lt (tgt := 24) hx hb dX12_isDigit_7 (of_decide_eq_true rfl) (fun c_5 => ?_) (fun c_5 => ?_)
  · have hfn := (if_pos c_5).symm.trans hfn
    refine lv_iconst (v := 0) hx hb dX12_isDigit_24 zci_0 ?_
    have ho := Option.some.inj hfn
    subst ho
    exact zrz hx hb hr rfl hK hP hD hS hQ ⟨rfl, zB0⟩ hlocks dX12_isDigit_25
  have hfn := (if_neg c_5).symm.trans hfn
  refine lv_aload_n hx hb dX12_isDigit_10 rfl (lv_at hl 0 rfl) ?_
  refine lv_iload_n hx hb dX12_isDigit_11 rfl (lv_at hl 1 rfl) ?_
  obtain ⟨o_6, hqo_6, hfn⟩ := zb_s hfn
  refine zcVi (ci := 12) (rest := []) (pc' := 15) (ws' := [(h0, .inr (12, zO a0 b0 c0)), zVi (a0 0) k1 1200 f1]) hP hK hD hS hA ⟨hx, hb, hml, hown, hts⟩ (zf_X12_byteAt l dC dI h0 p1 a0 b0 c0 k1 f1 o_6 hqo_6 H.size) (cwV 1 hts gX12_isDigit_X12_byteAt rfl rfl rfl zhd_X12_byteAt ⟨Nat.le_of_ble_eq_true rfl, Nat.le_of_ble_eq_true rfl⟩) [0, 1] rfl (of_decide_eq_true rfl) [0] rfl rfl rfl rfl hl.1 rfl (Nat.le_of_ble_eq_true rfl) dX12_isDigit_12 ⟨Nat.le_of_ble_eq_true rfl, Nat.le_of_ble_eq_true rfl⟩ [some 0, some 1] (of_decide_eq_true rfl) (of_decide_eq_true rfl) rfl rfl rfl (fun H locs hP hD hS => ?_)
  refine lv_bipush (v := 57) hx hb dX12_isDigit_15 zcb_57 ?_
  refine lv_icmp_gt (tgt := 24) hx hb dX12_isDigit_17 (of_decide_eq_true rfl) (fun c_10 => ?_) (fun c_10 => ?_)
  · have hfn := (if_pos c_10).symm.trans hfn
    refine lv_iconst (v := 0) hx hb dX12_isDigit_24 zci_0 ?_
    have ho := Option.some.inj hfn
    subst ho
    exact zrz hx hb hr rfl hK hP hD hS hQ ⟨rfl, zB0⟩ hlocks dX12_isDigit_25
  have hfn := (if_neg c_10).symm.trans hfn
  refine lv_iconst (v := 1) hx hb dX12_isDigit_20 zci_1 ?_
  refine lv_goto (tgt := 25) hx hb dX12_isDigit_21 (of_decide_eq_true rfl) ?_
  have ho := Option.some.inj hfn
  subst ho
  exact zrz hx hb hr rfl hK hP hD hS hQ ⟨rfl, zB1⟩ hlocks dX12_isDigit_25
theorem zn_X12_here_X12 : ∀ w ∈ wsX120, w ∈ wsX12_here := fun _ h => List.mem_cons_of_mem _ (List.mem_append_right _ h)
theorem zw_X12_here_882 : Cond.fieldLink RX12 29 "ShortEnoughModel" "at" "I" ∈ wsX12_here := List.mem_of_getElem? (i := 1) (by decide +kernel)
set_option maxHeartbeats 4000000 in
set_option maxRecDepth 100000 in
theorem zf_X12_here (l : Launch) (dC : Nat → ClassId) (dI : Nat → Nat → Nat) (h0 : Nat) (a0 : Nat → Nat) (b0 : Nat → Int32) (c0 : Nat → Int64) (k1 : Nat) (f1 : Nat → Int32) (o : Int32 × Int32) (hfn : fn_X12_here (b0 5) (b0 6) f1 = some o) (sz : Nat) : zMi l yX12_here wsX12_here ({ frames := 1, cells := 0, slots := 0, locals := 21 }) (dC, dI) vwCl [.ref h0] [(h0, .inr (12, zO a0 b0 c0)), zVi (a0 0) k1 1200 f1] [(k1, .int)] (fun r _ => r = o.1) [(h0, .inr (12, zO a0 (zI b0 6 o.2) c0)), zVi (a0 0) k1 1200 f1] [(k1, .int)] sz := by
  refine zgoi (cc := cX12_here) (maxL := 1) (ret := (some .int)) (C0 := RX12) (lv0 := [(0, .ref h0)]) zpl_X12 rfl rfl rfl (Nat.le_of_ble_eq_true rfl) ?_
  intro p e s m below meth c A ls Q hx hb hr hts hown hlocks hml hP hK hD hA hS hl hQ
  unfold fn_X12_here at hfn
  obtain ⟨bd_1, ebd_1, hfn⟩ := zl_g hfn
  have lp_1 : ∀ (n : Nat) (s_1 : Int32) (H : Heap) (locs : List Loc) (ls : Array Slot), zl bd_1 n s_1 = some o → va_P (dC, dI) vwCl [(h0, .inr (12, zO a0 (zI b0 6 s_1) c0)), zVi (a0 0) k1 1200 f1] H → va_D A [(h0, .inr (12, zO a0 (zI b0 6 s_1) c0)), zVi (a0 0) k1 1200 f1] → va_S A s.heap H locs → lv_has ls 1 [(0, .ref h0)] → W p l e (headSpec wsX12_here ({ frames := 1, cells := 0, slots := 0, locals := 21 })).room s m ([.ref h0] : List Value).toArray below meth c H locs 0 0 Q (F0 m 0 ls []) := by
    intro n
    induction n with
    | zero => exact fun _ _ _ _ hfn => (zl_0 hfn).elim
    | succ n ih_1 =>
      intro s_1 H locs ls hfn hP hD hS hl
      have hfn := zl_s ebd_1 hfn
      refine lv_aload_n hx hb dX12_here_0 rfl (lv_at hl 0 rfl) ?_
      refine lv_aload_n hx hb dX12_here_1 rfl (lv_at hl 0 rfl) ?_
      refine va_get (D := (dC, dI)) (ci := 12) (v := .int s_1) (C := RX12) (T := TX12) (N := 67) hx hb hts zn_X12_here_X12 hown hK hP 0 rfl rfl 6 (of_decide_eq_true rfl) (hts (.fieldLink RX12 29 "ShortEnoughModel" "at" "I") zw_X12_here_882) (fun _ h9 => h9) rfl dX12_here_2 ?_
      obtain ⟨o_2, hqo_2, hfn⟩ := zb_s hfn
      refine zcVi (ci := 12) (rest := []) (pc' := 8) (ws' := [(h0, .inr (12, zO a0 (zI b0 6 s_1) c0)), zVi (a0 0) k1 1200 f1]) hP hK hD hS hA ⟨hx, hb, hml, hown, hts⟩ (zf_X12_byteAt l dC dI h0 s_1 a0 (zI b0 6 s_1) c0 k1 f1 o_2 hqo_2 H.size) (cwV 1 hts gX12_here_X12_byteAt rfl rfl rfl zhd_X12_byteAt ⟨Nat.le_of_ble_eq_true rfl, Nat.le_of_ble_eq_true rfl⟩) [0, 1] rfl (of_decide_eq_true rfl) [0] rfl rfl rfl rfl hl.1 rfl (Nat.le_of_ble_eq_true rfl) dX12_here_5 ⟨Nat.le_of_ble_eq_true rfl, Nat.le_of_ble_eq_true rfl⟩ [some 0, some 1] (of_decide_eq_true rfl) (of_decide_eq_true rfl) rfl rfl rfl (fun H locs hP hD hS => ?_)
      refine lv_bipush (v := 10) hx hb dX12_here_8 zcb_10 ?_
      refine lv_icmp_eq (tgt := 26) hx hb dX12_here_10 (of_decide_eq_true rfl) (fun c_6 => ?_) (fun c_6 => ?_)
      · have hfn := (if_pos c_6).symm.trans hfn
        refine lv_aload_n hx hb dX12_here_26 rfl (lv_at hl 0 rfl) ?_
        refine lv_dup hx hb dX12_here_27 rfl ?_
        refine va_get (D := (dC, dI)) (ci := 12) (v := .int s_1) (C := RX12) (T := TX12) (N := 67) hx hb hts zn_X12_here_X12 hown hK hP 0 rfl rfl 6 (of_decide_eq_true rfl) (hts (.fieldLink RX12 29 "ShortEnoughModel" "at" "I") zw_X12_here_882) (fun _ h9 => h9) rfl dX12_here_28 ?_
        refine lv_iconst (v := 1) hx hb dX12_here_31 zci_1 ?_
        refine lv_iadd hx hb dX12_here_32 ?_
        refine va_put (D := (dC, dI)) (ci := 12) (v := .int (s_1 + 1)) (ty := .int) (C := RX12) (T := TX12) (N := 67) hx hb hts zn_X12_here_X12 tyX12 tyX12_ok nmX12 hown hK hP hD hS 0 rfl rfl 6 (of_decide_eq_true rfl) (hts (.fieldLink RX12 29 "ShortEnoughModel" "at" "I") zw_X12_here_882) (fun _ h9 => h9) rfl (tyX12_ok 6 (of_decide_eq_true rfl)) rfl rfl (Nat.le_of_ble_eq_true rfl) dX12_here_33 (fun H locs hP hD hS => ?_)
        have hP : va_P (dC, dI) vwCl [(h0, .inr (12, zO a0 (zI b0 6 (s_1 + 1)) c0)), zVi (a0 0) k1 1200 f1] H := hP
        have hD := zDW hD hP rfl
        refine lv_goto (tgt := 0) hx hb dX12_here_36 (of_decide_eq_true rfl) ?_
        exact ih_1 (s_1 + 1) H locs ls hfn hP hD hS (lv_sub hl [0] rfl)
      have hfn := (if_neg c_6).symm.trans hfn
      refine lv_aload_n hx hb dX12_here_13 rfl (lv_at hl 0 rfl) ?_
      refine lv_aload_n hx hb dX12_here_14 rfl (lv_at hl 0 rfl) ?_
      refine va_get (D := (dC, dI)) (ci := 12) (v := .int s_1) (C := RX12) (T := TX12) (N := 67) hx hb hts zn_X12_here_X12 hown hK hP 0 rfl rfl 6 (of_decide_eq_true rfl) (hts (.fieldLink RX12 29 "ShortEnoughModel" "at" "I") zw_X12_here_882) (fun _ h9 => h9) rfl dX12_here_15 ?_
      obtain ⟨o_7, hqo_7, hfn⟩ := zb_s hfn
      refine zcVi (ci := 12) (rest := []) (pc' := 21) (ws' := [(h0, .inr (12, zO a0 (zI b0 6 s_1) c0)), zVi (a0 0) k1 1200 f1]) hP hK hD hS hA ⟨hx, hb, hml, hown, hts⟩ (zf_X12_byteAt l dC dI h0 s_1 a0 (zI b0 6 s_1) c0 k1 f1 o_7 hqo_7 H.size) (cwV 1 hts gX12_here_X12_byteAt rfl rfl rfl zhd_X12_byteAt ⟨Nat.le_of_ble_eq_true rfl, Nat.le_of_ble_eq_true rfl⟩) [0, 1] rfl (of_decide_eq_true rfl) [0] rfl rfl rfl rfl hl.1 rfl (Nat.le_of_ble_eq_true rfl) dX12_here_18 ⟨Nat.le_of_ble_eq_true rfl, Nat.le_of_ble_eq_true rfl⟩ [some 0, some 1] (of_decide_eq_true rfl) (of_decide_eq_true rfl) rfl rfl rfl (fun H locs hP hD hS => ?_)
      refine lv_bipush (v := 32) hx hb dX12_here_21 zcb_32 ?_
      refine lv_icmp_ne (tgt := 39) hx hb dX12_here_23 (of_decide_eq_true rfl) (fun c_11 => ?_) (fun c_11 => ?_)
      · have hfn := (if_neg c_11).symm.trans hfn
        refine lv_aload_n hx hb dX12_here_39 rfl (lv_at hl 0 rfl) ?_
        refine lv_aload_n hx hb dX12_here_40 rfl (lv_at hl 0 rfl) ?_
        refine va_get (D := (dC, dI)) (ci := 12) (v := .int s_1) (C := RX12) (T := TX12) (N := 67) hx hb hts zn_X12_here_X12 hown hK hP 0 rfl rfl 6 (of_decide_eq_true rfl) (hts (.fieldLink RX12 29 "ShortEnoughModel" "at" "I") zw_X12_here_882) (fun _ h9 => h9) rfl dX12_here_41 ?_
        obtain ⟨o_12, hqo_12, hfn⟩ := zb_s hfn
        refine zcVi (ci := 12) (rest := []) (pc' := 47) (ws' := [(h0, .inr (12, zO a0 (zI b0 6 s_1) c0)), zVi (a0 0) k1 1200 f1]) hP hK hD hS hA ⟨hx, hb, hml, hown, hts⟩ (zf_X12_byteAt l dC dI h0 s_1 a0 (zI b0 6 s_1) c0 k1 f1 o_12 hqo_12 H.size) (cwV 1 hts gX12_here_X12_byteAt rfl rfl rfl zhd_X12_byteAt ⟨Nat.le_of_ble_eq_true rfl, Nat.le_of_ble_eq_true rfl⟩) [0, 1] rfl (of_decide_eq_true rfl) [0] rfl rfl rfl rfl hl.1 rfl (Nat.le_of_ble_eq_true rfl) dX12_here_44 ⟨Nat.le_of_ble_eq_true rfl, Nat.le_of_ble_eq_true rfl⟩ [some 0, some 1] (of_decide_eq_true rfl) (of_decide_eq_true rfl) rfl rfl rfl (fun H locs hP hD hS => ?_)
        have ho := Option.some.inj hfn
        subst ho
        exact zri hx hb hr hK hP hD hS hQ rfl hlocks dX12_here_47
      have hfn := (if_pos c_11).symm.trans hfn
      refine lv_aload_n hx hb dX12_here_26 rfl (lv_at hl 0 rfl) ?_
      refine lv_dup hx hb dX12_here_27 rfl ?_
      refine va_get (D := (dC, dI)) (ci := 12) (v := .int s_1) (C := RX12) (T := TX12) (N := 67) hx hb hts zn_X12_here_X12 hown hK hP 0 rfl rfl 6 (of_decide_eq_true rfl) (hts (.fieldLink RX12 29 "ShortEnoughModel" "at" "I") zw_X12_here_882) (fun _ h9 => h9) rfl dX12_here_28 ?_
      refine lv_iconst (v := 1) hx hb dX12_here_31 zci_1 ?_
      refine lv_iadd hx hb dX12_here_32 ?_
      refine va_put (D := (dC, dI)) (ci := 12) (v := .int (s_1 + 1)) (ty := .int) (C := RX12) (T := TX12) (N := 67) hx hb hts zn_X12_here_X12 tyX12 tyX12_ok nmX12 hown hK hP hD hS 0 rfl rfl 6 (of_decide_eq_true rfl) (hts (.fieldLink RX12 29 "ShortEnoughModel" "at" "I") zw_X12_here_882) (fun _ h9 => h9) rfl (tyX12_ok 6 (of_decide_eq_true rfl)) rfl rfl (Nat.le_of_ble_eq_true rfl) dX12_here_33 (fun H locs hP hD hS => ?_)
      have hP : va_P (dC, dI) vwCl [(h0, .inr (12, zO a0 (zI b0 6 (s_1 + 1)) c0)), zVi (a0 0) k1 1200 f1] H := hP
      have hD := zDW hD hP rfl
      refine lv_goto (tgt := 0) hx hb dX12_here_36 (of_decide_eq_true rfl) ?_
      exact ih_1 (s_1 + 1) H locs ls hfn hP hD hS (lv_sub hl [0] rfl)
  exact lp_1 _ (b0 6) s.heap [] ls hfn hP hD hS (lv_sub hl [0] rfl)
theorem zn_X12_faults_X12 : ∀ w ∈ wsX120, w ∈ wsX12_faults := fun _ h => List.mem_cons_of_mem _ (List.mem_append_right _ h)
theorem zw_X12_faults_884 : Cond.fieldLink RX12 35 "ShortEnoughModel" "wrong" "I" ∈ wsX12_faults := List.mem_of_getElem? (i := 1) (by decide +kernel)
theorem zw_X12_faults_885 : Cond.fieldLink RX12 38 "ShortEnoughModel" "wrongAt" "I" ∈ wsX12_faults := List.mem_of_getElem? (i := 2) (by decide +kernel)
set_option maxHeartbeats 4000000 in
set_option maxRecDepth 100000 in
theorem zf_X12_faults (l : Launch) (dC : Nat → ClassId) (dI : Nat → Nat → Nat) (h0 : Nat) (p1 : Int32) (p2 : Int32) (a0 : Nat → Nat) (b0 : Nat → Int32) (c0 : Nat → Int64) (o : Int32 × Int32) (hfn : fn_X12_faults p1 p2 (b0 8) (b0 9) = some o) (sz : Nat) : zMv l yX12_faults wsX12_faults ({ frames := 0, cells := 0, slots := 0, locals := 0 }) (dC, dI) vwCl [.ref h0, .int p1, .int p2] [(h0, .inr (12, zO a0 b0 c0))] [] (fun _ => True) [(h0, .inr (12, zO a0 (zI (zI b0 8 o.1) 9 o.2) c0))] [] sz := by
  refine zgov (cc := cX12_faults) (maxL := 3) (ret := none) (C0 := RX12) (lv0 := [(0, .ref h0), (1, .int p1), (2, .int p2)]) zpl_X12 rfl rfl rfl (Nat.le_of_ble_eq_true rfl) ?_
  intro p e s m below meth c A ls Q hx hb hr hts hown hlocks hml hP hK hD hA hS hl hQ
  unfold fn_X12_faults at hfn
  refine lv_aload_n hx hb dX12_faults_0 rfl (lv_at hl 0 rfl) ?_
  refine va_get (D := (dC, dI)) (ci := 12) (v := .int (b0 8)) (C := RX12) (T := TX12) (N := 67) hx hb hts zn_X12_faults_X12 hown hK hP 0 rfl rfl 8 (of_decide_eq_true rfl) (hts (.fieldLink RX12 35 "ShortEnoughModel" "wrong" "I") zw_X12_faults_884) (fun _ h9 => h9) rfl dX12_faults_1 ?_
  refine lv_if_eq (tgt := 8) hx hb dX12_faults_4 (of_decide_eq_true rfl) (fun c_1 => ?_) (fun c_1 => ?_)
  · have hfn := (if_pos c_1).symm.trans hfn
    refine lv_aload_n hx hb dX12_faults_8 rfl (lv_at hl 0 rfl) ?_
    refine lv_iload_n hx hb dX12_faults_9 rfl (lv_at hl 1 rfl) ?_
    refine va_put (D := (dC, dI)) (ci := 12) (v := .int p1) (ty := .int) (C := RX12) (T := TX12) (N := 67) hx hb hts zn_X12_faults_X12 tyX12 tyX12_ok nmX12 hown hK hP hD hS 0 rfl rfl 8 (of_decide_eq_true rfl) (hts (.fieldLink RX12 35 "ShortEnoughModel" "wrong" "I") zw_X12_faults_884) (fun _ h9 => h9) rfl (tyX12_ok 8 (of_decide_eq_true rfl)) rfl rfl (Nat.le_of_ble_eq_true rfl) dX12_faults_10 (fun H locs hP hD hS => ?_)
    have hP : va_P (dC, dI) vwCl [(h0, .inr (12, zO a0 (zI b0 8 p1) c0))] H := hP
    have hD := zDW hD hP rfl
    refine lv_aload_n hx hb dX12_faults_13 rfl (lv_at hl 0 rfl) ?_
    refine lv_iload_n hx hb dX12_faults_14 rfl (lv_at hl 2 rfl) ?_
    refine va_put (D := (dC, dI)) (ci := 12) (v := .int p2) (ty := .int) (C := RX12) (T := TX12) (N := 67) hx hb hts zn_X12_faults_X12 tyX12 tyX12_ok nmX12 hown hK hP hD hS 0 rfl rfl 9 (of_decide_eq_true rfl) (hts (.fieldLink RX12 38 "ShortEnoughModel" "wrongAt" "I") zw_X12_faults_885) (fun _ h9 => h9) rfl (tyX12_ok 9 (of_decide_eq_true rfl)) rfl rfl (Nat.le_of_ble_eq_true rfl) dX12_faults_15 (fun H locs hP hD hS => ?_)
    have hP : va_P (dC, dI) vwCl [(h0, .inr (12, zO a0 (zI (zI b0 8 p1) 9 p2) c0))] H := hP
    have hD := zDW hD hP rfl
    have ho := Option.some.inj hfn
    subst ho
    exact zrv hx hb hr hK hP hD hS hQ trivial hlocks dX12_faults_18
  have hfn := (if_neg c_1).symm.trans hfn
  have ho := Option.some.inj hfn
  subst ho
  exact zrv hx hb hr hK hP hD hS hQ trivial hlocks dX12_faults_7
theorem zn_X12_goesWell_X12 : ∀ w ∈ wsX120, w ∈ wsX12_goesWell := fun _ h => List.mem_cons_of_mem _ (List.mem_append_right _ h)
theorem zw_X12_goesWell_887 : Cond.fieldLink RX12 35 "ShortEnoughModel" "wrong" "I" ∈ wsX12_goesWell := List.mem_of_getElem? (i := 1) (by decide +kernel)
set_option maxHeartbeats 4000000 in
set_option maxRecDepth 100000 in
theorem zf_X12_goesWell (l : Launch) (dC : Nat → ClassId) (dI : Nat → Nat → Nat) (h0 : Nat) (a0 : Nat → Nat) (b0 : Nat → Int32) (c0 : Nat → Int64) (o : Int32) (hfn : fn_X12_goesWell (b0 8) = some o) (sz : Nat) : zMi l yX12_goesWell wsX12_goesWell ({ frames := 0, cells := 0, slots := 0, locals := 0 }) (dC, dI) vwCl [.ref h0] [(h0, .inr (12, zO a0 b0 c0))] [] (fun r _ => r = o ∧ narrow .boolean (.int o) = .int o) [(h0, .inr (12, zO a0 b0 c0))] [] sz := by
  refine zgoi (cc := cX12_goesWell) (maxL := 1) (ret := (some .boolean)) (C0 := RX12) (lv0 := [(0, .ref h0)]) zpl_X12 rfl rfl rfl (Nat.le_of_ble_eq_true rfl) ?_
  intro p e s m below meth c A ls Q hx hb hr hts hown hlocks hml hP hK hD hA hS hl hQ
  unfold fn_X12_goesWell at hfn
  refine lv_aload_n hx hb dX12_goesWell_0 rfl (lv_at hl 0 rfl) ?_
  refine va_get (D := (dC, dI)) (ci := 12) (v := .int (b0 8)) (C := RX12) (T := TX12) (N := 67) hx hb hts zn_X12_goesWell_X12 hown hK hP 0 rfl rfl 8 (of_decide_eq_true rfl) (hts (.fieldLink RX12 35 "ShortEnoughModel" "wrong" "I") zw_X12_goesWell_887) (fun _ h9 => h9) rfl dX12_goesWell_1 ?_
  refine lv_if_ne (tgt := 11) hx hb dX12_goesWell_4 (of_decide_eq_true rfl) (fun c_1 => ?_) (fun c_1 => ?_)
  · have hfn := (if_neg c_1).symm.trans hfn
    refine lv_iconst (v := 0) hx hb dX12_goesWell_11 zci_0 ?_
    have ho := Option.some.inj hfn
    subst ho
    exact zrz hx hb hr rfl hK hP hD hS hQ ⟨rfl, zB0⟩ hlocks dX12_goesWell_12
  have hfn := (if_pos c_1).symm.trans hfn
  refine lv_iconst (v := 1) hx hb dX12_goesWell_7 zci_1 ?_
  refine lv_goto (tgt := 12) hx hb dX12_goesWell_8 (of_decide_eq_true rfl) ?_
  have ho := Option.some.inj hfn
  subst ho
  exact zrz hx hb hr rfl hK hP hD hS hQ ⟨rfl, zB1⟩ hlocks dX12_goesWell_12
theorem zn_X12_mark_X12 : ∀ w ∈ wsX120, w ∈ wsX12_mark := fun _ h => List.mem_cons_of_mem _ (List.mem_append_right _ h)
theorem zw_X12_mark_889 : Cond.fieldLink RX12 29 "ShortEnoughModel" "at" "I" ∈ wsX12_mark := List.mem_of_getElem? (i := 1) (by decide +kernel)
set_option maxHeartbeats 4000000 in
set_option maxRecDepth 100000 in
theorem zf_X12_mark (l : Launch) (dC : Nat → ClassId) (dI : Nat → Nat → Nat) (h0 : Nat) (p1 : Int32) (a0 : Nat → Nat) (b0 : Nat → Int32) (c0 : Nat → Int64) (k1 : Nat) (f1 : Nat → Int32) (o : Int32 × Int32 × Int32) (hfn : fn_X12_mark p1 (b0 5) (b0 6) (b0 8) (b0 9) f1 = some o) (sz : Nat) : zMv l yX12_mark wsX12_mark ({ frames := 2, cells := 0, slots := 0, locals := 41 }) (dC, dI) vwCl [.ref h0, .int p1] [(h0, .inr (12, zO a0 b0 c0)), zVi (a0 0) k1 1200 f1] [(k1, .int)] (fun _ => True) [(h0, .inr (12, zO a0 (zI (zI (zI b0 6 o.1) 8 o.2.1) 9 o.2.2) c0)), zVi (a0 0) k1 1200 f1] [(k1, .int)] sz := by
  refine zgov (cc := cX12_mark) (maxL := 2) (ret := none) (C0 := RX12) (lv0 := [(0, .ref h0), (1, .int p1)]) zpl_X12 rfl rfl rfl (Nat.le_of_ble_eq_true rfl) ?_
  intro p e s m below meth c A ls Q hx hb hr hts hown hlocks hml hP hK hD hA hS hl hQ
  unfold fn_X12_mark at hfn
  refine lv_aload_n hx hb dX12_mark_0 rfl (lv_at hl 0 rfl) ?_
  obtain ⟨o_1, hqo_1, hfn⟩ := zb_s hfn
  refine zcVb (ci := 12) (rest := []) (pc' := 4) (ws' := [(h0, .inr (12, zO a0 b0 c0)), zVi (a0 0) k1 1200 f1]) hP hK hD hS hA ⟨hx, hb, hml, hown, hts⟩ (zf_X12_goesWell l dC dI h0 a0 b0 c0 o_1 hqo_1 s.heap.size) (cwV 0 hts gX12_mark_X12_goesWell rfl rfl rfl zhd_X12_goesWell ⟨Nat.le_of_ble_eq_true rfl, Nat.le_of_ble_eq_true rfl⟩) [0] rfl (of_decide_eq_true rfl) [] rfl rfl rfl rfl hl.1 rfl (Nat.le_of_ble_eq_true rfl) dX12_mark_1 ⟨Nat.le_of_ble_eq_true rfl, Nat.le_of_ble_eq_true rfl⟩ [some 0] (of_decide_eq_true rfl) (of_decide_eq_true rfl) rfl rfl rfl (fun H locs hw_4n hP hD hS => ?_)
  refine lv_if_ne (tgt := 8) hx hb dX12_mark_4 (of_decide_eq_true rfl) (fun c_5 => ?_) (fun c_5 => ?_)
  · have hfn := (if_neg c_5).symm.trans hfn
    refine lv_aload_n hx hb dX12_mark_8 rfl (lv_at hl 0 rfl) ?_
    obtain ⟨o_6, hqo_6, hfn⟩ := zb_s hfn
    refine zcVi (ci := 12) (rest := []) (pc' := 12) (ws' := [(h0, .inr (12, zO a0 (zI b0 6 o_6.2) c0)), zVi (a0 0) k1 1200 f1]) hP hK hD hS hA ⟨hx, hb, hml, hown, hts⟩ (zf_X12_here l dC dI h0 a0 b0 c0 k1 f1 o_6 hqo_6 H.size) (cwV 0 hts gX12_mark_X12_here rfl rfl rfl zhd_X12_here ⟨Nat.le_of_ble_eq_true rfl, Nat.le_of_ble_eq_true rfl⟩) [0, 1] rfl (of_decide_eq_true rfl) [0] rfl rfl rfl rfl hl.1 rfl (Nat.le_of_ble_eq_true rfl) dX12_mark_9 ⟨Nat.le_of_ble_eq_true rfl, Nat.le_of_ble_eq_true rfl⟩ [some 0, some 1] (of_decide_eq_true rfl) (of_decide_eq_true rfl) rfl rfl rfl (fun H locs hP hD hS => ?_)
    refine lv_iload_n hx hb dX12_mark_12 rfl (lv_at hl 1 rfl) ?_
    refine lv_icmp_ne (tgt := 29) hx hb dX12_mark_13 (of_decide_eq_true rfl) (fun c_10 => ?_) (fun c_10 => ?_)
    · have hfn := (if_neg c_10).symm.trans hfn
      refine lv_aload_n hx hb dX12_mark_29 rfl (lv_at hl 0 rfl) ?_
      refine lv_iconst (v := 1) hx hb dX12_mark_30 zci_1 ?_
      refine lv_aload_n hx hb dX12_mark_31 rfl (lv_at hl 0 rfl) ?_
      refine va_get (D := (dC, dI)) (ci := 12) (v := .int o_6.2) (C := RX12) (T := TX12) (N := 67) hx hb hts zn_X12_mark_X12 hown hK hP 0 rfl rfl 6 (of_decide_eq_true rfl) (hts (.fieldLink RX12 29 "ShortEnoughModel" "at" "I") zw_X12_mark_889) (fun _ h9 => h9) rfl dX12_mark_32 ?_
      obtain ⟨o_11, hqo_11, hfn⟩ := zb_s hfn
      refine zcVv (ci := 12) (rest := []) (pc' := 38) (ws' := [(h0, .inr (12, zO a0 (zI (zI (zI b0 6 o_6.2) 8 o_11.1) 9 o_11.2) c0)), zVi (a0 0) k1 1200 f1]) hP hK hD hS hA ⟨hx, hb, hml, hown, hts⟩ (zf_X12_faults l dC dI h0 1 o_6.2 a0 (zI b0 6 o_6.2) c0 o_11 hqo_11 H.size) (cwV 2 hts gX12_mark_X12_faults rfl rfl rfl zhd_X12_faults ⟨Nat.le_of_ble_eq_true rfl, Nat.le_of_ble_eq_true rfl⟩) [0] rfl (of_decide_eq_true rfl) [] rfl rfl rfl rfl hl.1 rfl (Nat.le_of_ble_eq_true rfl) dX12_mark_35 ⟨Nat.le_of_ble_eq_true rfl, Nat.le_of_ble_eq_true rfl⟩ [some 0] (of_decide_eq_true rfl) (of_decide_eq_true rfl) rfl rfl rfl (fun H locs hP hD hS => ?_)
      have ho := Option.some.inj hfn
      subst ho
      exact zrv hx hb hr hK hP hD hS hQ trivial hlocks dX12_mark_38
    have hfn := (if_pos c_10).symm.trans hfn
    refine lv_aload_n hx hb dX12_mark_16 rfl (lv_at hl 0 rfl) ?_
    refine lv_dup hx hb dX12_mark_17 rfl ?_
    refine va_get (D := (dC, dI)) (ci := 12) (v := .int o_6.2) (C := RX12) (T := TX12) (N := 67) hx hb hts zn_X12_mark_X12 hown hK hP 0 rfl rfl 6 (of_decide_eq_true rfl) (hts (.fieldLink RX12 29 "ShortEnoughModel" "at" "I") zw_X12_mark_889) (fun _ h9 => h9) rfl dX12_mark_18 ?_
    refine lv_iconst (v := 1) hx hb dX12_mark_21 zci_1 ?_
    refine lv_iadd hx hb dX12_mark_22 ?_
    refine va_put (D := (dC, dI)) (ci := 12) (v := .int (o_6.2 + 1)) (ty := .int) (C := RX12) (T := TX12) (N := 67) hx hb hts zn_X12_mark_X12 tyX12 tyX12_ok nmX12 hown hK hP hD hS 0 rfl rfl 6 (of_decide_eq_true rfl) (hts (.fieldLink RX12 29 "ShortEnoughModel" "at" "I") zw_X12_mark_889) (fun _ h9 => h9) rfl (tyX12_ok 6 (of_decide_eq_true rfl)) rfl rfl (Nat.le_of_ble_eq_true rfl) dX12_mark_23 (fun H locs hP hD hS => ?_)
    have hP : va_P (dC, dI) vwCl [(h0, .inr (12, zO a0 (zI b0 6 (o_6.2 + 1)) c0)), zVi (a0 0) k1 1200 f1] H := hP
    have hD := zDW hD hP rfl
    refine lv_goto (tgt := 38) hx hb dX12_mark_26 (of_decide_eq_true rfl) ?_
    have ho := Option.some.inj hfn
    subst ho
    exact zrv hx hb hr hK hP hD hS hQ trivial hlocks dX12_mark_38
  have hfn := (if_pos c_5).symm.trans hfn
  have ho := Option.some.inj hfn
  subst ho
  exact zrv hx hb hr hK hP hD hS hQ trivial hlocks dX12_mark_7
theorem zn_X12_own_X12 : ∀ w ∈ wsX120, w ∈ wsX12_own := fun _ h => List.mem_cons_of_mem _ (List.mem_append_right _ h)
theorem zw_X12_own_891 : Cond.fieldLink RX12 41 "ShortEnoughModel" "ownLetters" "[I" ∈ wsX12_own := List.mem_of_getElem? (i := 1) (by decide +kernel)
theorem zw_X12_own_892 : Cond.fieldLink RX12 32 "ShortEnoughModel" "begun" "I" ∈ wsX12_own := List.mem_of_getElem? (i := 2) (by decide +kernel)
theorem zw_X12_own_893 : Cond.fieldLink RX12 29 "ShortEnoughModel" "at" "I" ∈ wsX12_own := List.mem_of_getElem? (i := 3) (by decide +kernel)
theorem zw_X12_own_894 : Cond.fieldLink RX12 7 "ShortEnoughModel" "tape" "[I" ∈ wsX12_own := List.mem_of_getElem? (i := 4) (by decide +kernel)
set_option maxHeartbeats 4000000 in
set_option maxRecDepth 100000 in
theorem zf_X12_own (l : Launch) (dC : Nat → ClassId) (dI : Nat → Nat → Nat) (h0 : Nat) (a0 : Nat → Nat) (b0 : Nat → Int32) (c0 : Nat → Int64) (k1 : Nat) (f1 : Nat → Int32) (k2 : Nat) (f2 : Nat → Int32) (o : Int32) (hfn : fn_X12_own (b0 6) (b0 7) f1 f2 = some o) (sz : Nat) : zMi l yX12_own wsX12_own ({ frames := 0, cells := 0, slots := 0, locals := 0 }) (dC, dI) vwCl [.ref h0] [(h0, .inr (12, zO a0 b0 c0)), zVi (a0 10) k1 71 f1, zVi (a0 0) k2 1200 f2] [(k1, .int), (k2, .int)] (fun r _ => r = o) [(h0, .inr (12, zO a0 b0 c0)), zVi (a0 10) k1 71 f1, zVi (a0 0) k2 1200 f2] [(k1, .int), (k2, .int)] sz := by
  refine zgoi (cc := cX12_own) (maxL := 4) (ret := (some .int)) (C0 := RX12) (lv0 := [(0, .ref h0)]) zpl_X12 rfl rfl rfl (Nat.le_of_ble_eq_true rfl) ?_
  intro p e s m below meth c A ls Q hx hb hr hts hown hlocks hml hP hK hD hA hS hl hQ
  unfold fn_X12_own at hfn
  refine lv_iconst (v := 0) hx hb dX12_own_0 zci_0 ?_
  refine lv_istore_n (lv' := [(1, .int 0), (0, .ref h0)]) hx hb dX12_own_1 rfl hl (of_decide_eq_true rfl) rfl (fun ls hl => ?_)
  refine lv_iconst (v := 0) hx hb dX12_own_2 zci_0 ?_
  refine lv_istore_n (lv' := [(2, .int 0), (1, .int 0), (0, .ref h0)]) hx hb dX12_own_3 rfl hl (of_decide_eq_true rfl) rfl (fun ls hl => ?_)
  obtain ⟨bd_1, ebd_1, hfn⟩ := zl_g hfn
  have lp_1 : ∀ (n : Nat) (s_1 : Int32 × Int32) (H : Heap) (locs : List Loc) (ls : Array Slot), zl bd_1 n s_1 = some o → va_P (dC, dI) vwCl [(h0, .inr (12, zO a0 b0 c0)), zVi (a0 10) k1 71 f1, zVi (a0 0) k2 1200 f2] H → va_D A [(h0, .inr (12, zO a0 b0 c0)), zVi (a0 10) k1 71 f1, zVi (a0 0) k2 1200 f2] → va_S A s.heap H locs → lv_has ls 4 [(2, .int s_1.2), (1, .int s_1.1), (0, .ref h0)] → W p l e (headSpec wsX12_own ({ frames := 0, cells := 0, slots := 0, locals := 0 })).room s m ([.ref h0] : List Value).toArray below meth c H locs 0 0 Q (F0 m 4 ls []) := by
    intro n
    induction n with
    | zero => exact fun _ _ _ _ hfn => (zl_0 hfn).elim
    | succ n ih_1 =>
      intro s_1 H locs ls hfn hP hD hS hl
      have hfn := zl_s ebd_1 hfn
      refine lv_iload_n hx hb dX12_own_4 rfl (lv_at hl 0 rfl) ?_
      refine lv_bipush (v := 12) hx hb dX12_own_5 zcb_12 ?_
      refine lv_icmp_gt (tgt := 117) hx hb dX12_own_7 (of_decide_eq_true rfl) (fun c_2 => ?_) (fun c_2 => ?_)
      · have hfn := (if_pos c_2).symm.trans hfn
        refine lv_iconst (v := (-1)) hx hb dX12_own_117 zci_m1 ?_
        have ho := Option.some.inj hfn
        subst ho
        exact zri hx hb hr hK hP hD hS hQ rfl hlocks dX12_own_118
      have hfn := (if_neg c_2).symm.trans hfn
      refine lv_iconst (v := 0) hx hb dX12_own_10 zci_0 ?_
      refine lv_istore_n (lv' := [(3, .int 0), (2, .int s_1.2), (1, .int s_1.1), (0, .ref h0)]) hx hb dX12_own_11 rfl hl (of_decide_eq_true rfl) rfl (fun ls hl => ?_)
      obtain ⟨bd_3, ebd_3, hfn⟩ := zl_g hfn
      have lp_3 : ∀ (n : Nat) (s_3 : Int32) (H : Heap) (locs : List Loc) (ls : Array Slot), zl bd_3 n s_3 = some o → va_P (dC, dI) vwCl [(h0, .inr (12, zO a0 b0 c0)), zVi (a0 10) k1 71 f1, zVi (a0 0) k2 1200 f2] H → va_D A [(h0, .inr (12, zO a0 b0 c0)), zVi (a0 10) k1 71 f1, zVi (a0 0) k2 1200 f2] → va_S A s.heap H locs → lv_has ls 4 [(3, .int s_3), (2, .int s_1.2), (1, .int s_1.1), (0, .ref h0)] → W p l e (headSpec wsX12_own ({ frames := 0, cells := 0, slots := 0, locals := 0 })).room s m ([.ref h0] : List Value).toArray below meth c H locs 0 0 Q (F0 m 12 ls []) := by
        intro n
        induction n with
        | zero => exact fun _ _ _ _ hfn => (zl_0 hfn).elim
        | succ n ih_3 =>
          intro s_3 H locs ls hfn hP hD hS hl
          have hfn := zl_s ebd_3 hfn
          refine lv_aload_n hx hb dX12_own_12 rfl (lv_at hl 3 rfl) ?_
          refine va_get (D := (dC, dI)) (ci := 12) (v := .ref (a0 10)) (C := RX12) (T := TX12) (N := 67) hx hb hts zn_X12_own_X12 hown hK hP 0 rfl rfl 10 (of_decide_eq_true rfl) (hts (.fieldLink RX12 41 "ShortEnoughModel" "ownLetters" "[I") zw_X12_own_891) (fun _ h9 => h9) rfl dX12_own_13 ?_
          refine lv_iload_n hx hb dX12_own_16 rfl (lv_at hl 2 rfl) ?_
          refine lv_iload_n hx hb dX12_own_17 rfl (lv_at hl 0 rfl) ?_
          refine lv_iadd hx hb dX12_own_18 ?_
          obtain ⟨h_4, hfn⟩ := zg_s hfn
          refine va_iald hx hb hK hP 1 0 rfl rfl h_4 dX12_own_19 ?_
          obtain ⟨j_5, ej_5, hfn⟩ := zj_g hfn
          have jp_5 : ∀ (s_5 : Unit) (H : Heap) (locs : List Loc) (ls : Array Slot), j_5 s_5 = some o → va_P (dC, dI) vwCl [(h0, .inr (12, zO a0 b0 c0)), zVi (a0 10) k1 71 f1, zVi (a0 0) k2 1200 f2] H → va_D A [(h0, .inr (12, zO a0 b0 c0)), zVi (a0 10) k1 71 f1, zVi (a0 0) k2 1200 f2] → va_S A s.heap H locs → lv_has ls 4 [(3, .int s_3), (2, .int s_1.2), (1, .int s_1.1), (0, .ref h0)] → W p l e (headSpec wsX12_own ({ frames := 0, cells := 0, slots := 0, locals := 0 })).room s m ([.ref h0] : List Value).toArray below meth c H locs 0 0 Q (F0 m 67 ls []) := by
            intro s_5 H locs ls hfn hP hD hS hl
            have hfn := zj_s ej_5 hfn
            refine lv_aload_n hx hb dX12_own_67 rfl (lv_at hl 3 rfl) ?_
            refine va_get (D := (dC, dI)) (ci := 12) (v := .ref (a0 10)) (C := RX12) (T := TX12) (N := 67) hx hb hts zn_X12_own_X12 hown hK hP 0 rfl rfl 10 (of_decide_eq_true rfl) (hts (.fieldLink RX12 41 "ShortEnoughModel" "ownLetters" "[I") zw_X12_own_891) (fun _ h9 => h9) rfl dX12_own_68 ?_
            refine lv_iload_n hx hb dX12_own_71 rfl (lv_at hl 2 rfl) ?_
            refine lv_iload_n hx hb dX12_own_72 rfl (lv_at hl 0 rfl) ?_
            refine lv_iadd hx hb dX12_own_73 ?_
            obtain ⟨h_6, hfn⟩ := zg_s hfn
            refine va_iald hx hb hK hP 1 0 rfl rfl h_6 dX12_own_74 ?_
            obtain ⟨j_7, ej_7, hfn⟩ := zj_g hfn
            have jp_7 : ∀ (s_7 : Unit) (H : Heap) (locs : List Loc) (ls : Array Slot), j_7 s_7 = some o → va_P (dC, dI) vwCl [(h0, .inr (12, zO a0 b0 c0)), zVi (a0 10) k1 71 f1, zVi (a0 0) k2 1200 f2] H → va_D A [(h0, .inr (12, zO a0 b0 c0)), zVi (a0 10) k1 71 f1, zVi (a0 0) k2 1200 f2] → va_S A s.heap H locs → lv_has ls 4 [(2, .int s_1.2), (1, .int s_1.1), (0, .ref h0)] → W p l e (headSpec wsX12_own ({ frames := 0, cells := 0, slots := 0, locals := 0 })).room s m ([.ref h0] : List Value).toArray below meth c H locs 0 0 Q (F0 m 93 ls []) := by
              intro s_7 H locs ls hfn hP hD hS hl
              have hfn := zj_s ej_7 hfn
              obtain ⟨bd_8, ebd_8, hfn⟩ := zl_g hfn
              have lp_8 : ∀ (n : Nat) (s_8 : Int32) (H : Heap) (locs : List Loc) (ls : Array Slot), zl bd_8 n s_8 = some o → va_P (dC, dI) vwCl [(h0, .inr (12, zO a0 b0 c0)), zVi (a0 10) k1 71 f1, zVi (a0 0) k2 1200 f2] H → va_D A [(h0, .inr (12, zO a0 b0 c0)), zVi (a0 10) k1 71 f1, zVi (a0 0) k2 1200 f2] → va_S A s.heap H locs → lv_has ls 4 [(2, .int s_1.2), (1, .int s_8), (0, .ref h0)] → W p l e (headSpec wsX12_own ({ frames := 0, cells := 0, slots := 0, locals := 0 })).room s m ([.ref h0] : List Value).toArray below meth c H locs 0 0 Q (F0 m 93 ls []) := by
                intro n
                induction n with
                | zero => exact fun _ _ _ _ hfn => (zl_0 hfn).elim
                | succ n ih_8 =>
                  intro s_8 H locs ls hfn hP hD hS hl
                  have hfn := zl_s ebd_8 hfn
                  refine lv_aload_n hx hb dX12_own_93 rfl (lv_at hl 2 rfl) ?_
                  refine va_get (D := (dC, dI)) (ci := 12) (v := .ref (a0 10)) (C := RX12) (T := TX12) (N := 67) hx hb hts zn_X12_own_X12 hown hK hP 0 rfl rfl 10 (of_decide_eq_true rfl) (hts (.fieldLink RX12 41 "ShortEnoughModel" "ownLetters" "[I") zw_X12_own_891) (fun _ h9 => h9) rfl dX12_own_94 ?_
                  refine lv_iload_n hx hb dX12_own_97 rfl (lv_at hl 1 rfl) ?_
                  obtain ⟨h_9, hfn⟩ := zg_s hfn
                  refine va_iald hx hb hK hP 1 0 rfl rfl h_9 dX12_own_98 ?_
                  refine lv_if_eq (tgt := 108) hx hb dX12_own_99 (of_decide_eq_true rfl) (fun c_10 => ?_) (fun c_10 => ?_)
                  · have hfn := (if_pos c_10).symm.trans hfn
                    refine lv_iinc (v := (s_8 + 1)) (lv' := [(1, .int (s_8 + 1)), (2, .int s_1.2), (0, .ref h0)]) hx hb dX12_own_108 hl (k := 1) rfl rfl (of_decide_eq_true rfl) rfl (fun ls hl => ?_)
                    refine lv_iinc (v := (s_1.2 + 1)) (lv' := [(2, .int (s_1.2 + 1)), (1, .int (s_8 + 1)), (0, .ref h0)]) hx hb dX12_own_111 hl (k := 1) rfl rfl (of_decide_eq_true rfl) rfl (fun ls hl => ?_)
                    refine lv_goto (tgt := 4) hx hb dX12_own_114 (of_decide_eq_true rfl) ?_
                    exact ih_1 ((s_8 + 1), (s_1.2 + 1)) H locs ls hfn hP hD hS (lv_sub hl [0, 1, 2] rfl)
                  have hfn := (if_neg c_10).symm.trans hfn
                  refine lv_iinc (v := (s_8 + 1)) (lv' := [(1, .int (s_8 + 1)), (2, .int s_1.2), (0, .ref h0)]) hx hb dX12_own_102 hl (k := 1) rfl rfl (of_decide_eq_true rfl) rfl (fun ls hl => ?_)
                  refine lv_goto (tgt := 93) hx hb dX12_own_105 (of_decide_eq_true rfl) ?_
                  exact ih_8 (s_8 + 1) H locs ls hfn hP hD hS (lv_sub hl [1, 0, 2] rfl)
              exact lp_8 _ s_1.1 H locs ls hfn hP hD hS (lv_sub hl [0, 1, 2] rfl)
            refine lv_if_ne (tgt := 93) hx hb dX12_own_75 (of_decide_eq_true rfl) (fun c_11 => ?_) (fun c_11 => ?_)
            · have hfn := (if_neg c_11).symm.trans hfn
              exact jp_7 () H locs ls hfn hP hD hS (lv_sub hl [1, 2, 3] rfl)
            have hfn := (if_pos c_11).symm.trans hfn
            refine lv_aload_n hx hb dX12_own_78 rfl (lv_at hl 3 rfl) ?_
            refine va_get (D := (dC, dI)) (ci := 12) (v := .int (b0 7)) (C := RX12) (T := TX12) (N := 67) hx hb hts zn_X12_own_X12 hown hK hP 0 rfl rfl 7 (of_decide_eq_true rfl) (hts (.fieldLink RX12 32 "ShortEnoughModel" "begun" "I") zw_X12_own_892) (fun _ h9 => h9) rfl dX12_own_79 ?_
            refine lv_iload_n hx hb dX12_own_82 rfl (lv_at hl 0 rfl) ?_
            refine lv_iadd hx hb dX12_own_83 ?_
            refine lv_aload_n hx hb dX12_own_84 rfl (lv_at hl 3 rfl) ?_
            refine va_get (D := (dC, dI)) (ci := 12) (v := .int (b0 6)) (C := RX12) (T := TX12) (N := 67) hx hb hts zn_X12_own_X12 hown hK hP 0 rfl rfl 6 (of_decide_eq_true rfl) (hts (.fieldLink RX12 29 "ShortEnoughModel" "at" "I") zw_X12_own_893) (fun _ h9 => h9) rfl dX12_own_85 ?_
            refine lv_icmp_ne (tgt := 93) hx hb dX12_own_88 (of_decide_eq_true rfl) (fun c_12 => ?_) (fun c_12 => ?_)
            · have hfn := (if_neg c_12).symm.trans hfn
              exact jp_7 () H locs ls hfn hP hD hS (lv_sub hl [1, 2, 3] rfl)
            have hfn := (if_pos c_12).symm.trans hfn
            refine lv_iload_n hx hb dX12_own_91 rfl (lv_at hl 1 rfl) ?_
            have ho := Option.some.inj hfn
            subst ho
            exact zri hx hb hr hK hP hD hS hQ rfl hlocks dX12_own_92
          refine lv_if_eq (tgt := 67) hx hb dX12_own_20 (of_decide_eq_true rfl) (fun c_13 => ?_) (fun c_13 => ?_)
          · have hfn := (if_pos c_13).symm.trans hfn
            exact jp_5 () H locs ls hfn hP hD hS (lv_sub hl [0, 1, 2, 3] rfl)
          have hfn := (if_neg c_13).symm.trans hfn
          refine lv_aload_n hx hb dX12_own_23 rfl (lv_at hl 3 rfl) ?_
          refine va_get (D := (dC, dI)) (ci := 12) (v := .int (b0 7)) (C := RX12) (T := TX12) (N := 67) hx hb hts zn_X12_own_X12 hown hK hP 0 rfl rfl 7 (of_decide_eq_true rfl) (hts (.fieldLink RX12 32 "ShortEnoughModel" "begun" "I") zw_X12_own_892) (fun _ h9 => h9) rfl dX12_own_24 ?_
          refine lv_iload_n hx hb dX12_own_27 rfl (lv_at hl 0 rfl) ?_
          refine lv_iadd hx hb dX12_own_28 ?_
          refine lv_aload_n hx hb dX12_own_29 rfl (lv_at hl 3 rfl) ?_
          refine va_get (D := (dC, dI)) (ci := 12) (v := .int (b0 6)) (C := RX12) (T := TX12) (N := 67) hx hb hts zn_X12_own_X12 hown hK hP 0 rfl rfl 6 (of_decide_eq_true rfl) (hts (.fieldLink RX12 29 "ShortEnoughModel" "at" "I") zw_X12_own_893) (fun _ h9 => h9) rfl dX12_own_30 ?_
          refine lv_icmp_ge (tgt := 67) hx hb dX12_own_33 (of_decide_eq_true rfl) (fun c_14 => ?_) (fun c_14 => ?_)
          · have hfn := (if_pos c_14).symm.trans hfn
            exact jp_5 () H locs ls hfn hP hD hS (lv_sub hl [0, 1, 2, 3] rfl)
          have hfn := (if_neg c_14).symm.trans hfn
          refine lv_aload_n hx hb dX12_own_36 rfl (lv_at hl 3 rfl) ?_
          refine va_get (D := (dC, dI)) (ci := 12) (v := .ref (a0 0)) (C := RX12) (T := TX12) (N := 67) hx hb hts zn_X12_own_X12 hown hK hP 0 rfl rfl 0 (of_decide_eq_true rfl) (hts (.fieldLink RX12 7 "ShortEnoughModel" "tape" "[I") zw_X12_own_894) (fun _ h9 => h9) rfl dX12_own_37 ?_
          refine lv_aload_n hx hb dX12_own_40 rfl (lv_at hl 3 rfl) ?_
          refine va_get (D := (dC, dI)) (ci := 12) (v := .int (b0 7)) (C := RX12) (T := TX12) (N := 67) hx hb hts zn_X12_own_X12 hown hK hP 0 rfl rfl 7 (of_decide_eq_true rfl) (hts (.fieldLink RX12 32 "ShortEnoughModel" "begun" "I") zw_X12_own_892) (fun _ h9 => h9) rfl dX12_own_41 ?_
          refine lv_iload_n hx hb dX12_own_44 rfl (lv_at hl 0 rfl) ?_
          refine lv_iadd hx hb dX12_own_45 ?_
          obtain ⟨h_15, hfn⟩ := zg_s hfn
          refine va_iald hx hb hK hP 2 1 rfl rfl h_15 dX12_own_46 ?_
          refine lv_bipush (v := 96) hx hb dX12_own_47 zcb_96 ?_
          refine lv_isub hx hb dX12_own_49 ?_
          refine lv_aload_n hx hb dX12_own_50 rfl (lv_at hl 3 rfl) ?_
          refine va_get (D := (dC, dI)) (ci := 12) (v := .ref (a0 10)) (C := RX12) (T := TX12) (N := 67) hx hb hts zn_X12_own_X12 hown hK hP 0 rfl rfl 10 (of_decide_eq_true rfl) (hts (.fieldLink RX12 41 "ShortEnoughModel" "ownLetters" "[I") zw_X12_own_891) (fun _ h9 => h9) rfl dX12_own_51 ?_
          refine lv_iload_n hx hb dX12_own_54 rfl (lv_at hl 2 rfl) ?_
          refine lv_iload_n hx hb dX12_own_55 rfl (lv_at hl 0 rfl) ?_
          refine lv_iadd hx hb dX12_own_56 ?_
          refine va_iald hx hb hK hP 1 0 rfl rfl h_4 dX12_own_57 ?_
          refine lv_icmp_ne (tgt := 67) hx hb dX12_own_58 (of_decide_eq_true rfl) (fun c_16 => ?_) (fun c_16 => ?_)
          · have hfn := (if_neg c_16).symm.trans hfn
            exact jp_5 () H locs ls hfn hP hD hS (lv_sub hl [0, 1, 2, 3] rfl)
          have hfn := (if_pos c_16).symm.trans hfn
          refine lv_iinc (v := (s_3 + 1)) (lv' := [(3, .int (s_3 + 1)), (2, .int s_1.2), (1, .int s_1.1), (0, .ref h0)]) hx hb dX12_own_61 hl (k := 0) rfl rfl (of_decide_eq_true rfl) rfl (fun ls hl => ?_)
          refine lv_goto (tgt := 12) hx hb dX12_own_64 (of_decide_eq_true rfl) ?_
          exact ih_3 (s_3 + 1) H locs ls hfn hP hD hS (lv_sub hl [0, 1, 2, 3] rfl)
      exact lp_3 _ 0 H locs ls hfn hP hD hS (lv_sub hl [0, 1, 2, 3] rfl)
  exact lp_1 _ (0, 0) s.heap [] ls hfn hP hD hS (lv_sub hl [0, 1, 2] rfl)
theorem zn_X12_word_X12 : ∀ w ∈ wsX120, w ∈ wsX12_word := fun _ h => List.mem_cons_of_mem _ (List.mem_append_right _ h)
theorem zw_X12_word_896 : Cond.fieldLink RX12 29 "ShortEnoughModel" "at" "I" ∈ wsX12_word := List.mem_of_getElem? (i := 1) (by decide +kernel)
theorem zw_X12_word_897 : Cond.fieldLink RX12 32 "ShortEnoughModel" "begun" "I" ∈ wsX12_word := List.mem_of_getElem? (i := 2) (by decide +kernel)
set_option maxHeartbeats 4000000 in
set_option maxRecDepth 100000 in
theorem zf_X12_word (l : Launch) (dC : Nat → ClassId) (dI : Nat → Nat → Nat) (h0 : Nat) (a0 : Nat → Nat) (b0 : Nat → Int32) (c0 : Nat → Int64) (k1 : Nat) (f1 : Nat → Int32) (o : Int32 × Int32 × Int32 × Int32) (hfn : fn_X12_word (b0 5) (b0 6) (b0 7) (b0 8) (b0 9) f1 = some o) (sz : Nat) : zMv l yX12_word wsX12_word ({ frames := 2, cells := 0, slots := 0, locals := 42 }) (dC, dI) vwCl [.ref h0] [(h0, .inr (12, zO a0 b0 c0)), zVi (a0 0) k1 1200 f1] [(k1, .int)] (fun _ => True) [(h0, .inr (12, zO a0 (zI (zI (zI (zI b0 6 o.1) 7 o.2.1) 8 o.2.2.1) 9 o.2.2.2) c0)), zVi (a0 0) k1 1200 f1] [(k1, .int)] sz := by
  refine zgov (cc := cX12_word) (maxL := 1) (ret := none) (C0 := RX12) (lv0 := [(0, .ref h0)]) zpl_X12 rfl rfl rfl (Nat.le_of_ble_eq_true rfl) ?_
  intro p e s m below meth c A ls Q hx hb hr hts hown hlocks hml hP hK hD hA hS hl hQ
  unfold fn_X12_word at hfn
  refine lv_aload_n hx hb dX12_word_0 rfl (lv_at hl 0 rfl) ?_
  obtain ⟨o_1, hqo_1, hfn⟩ := zb_s hfn
  refine zcVb (ci := 12) (rest := []) (pc' := 4) (ws' := [(h0, .inr (12, zO a0 b0 c0)), zVi (a0 0) k1 1200 f1]) hP hK hD hS hA ⟨hx, hb, hml, hown, hts⟩ (zf_X12_goesWell l dC dI h0 a0 b0 c0 o_1 hqo_1 s.heap.size) (cwV 0 hts gX12_word_X12_goesWell rfl rfl rfl zhd_X12_goesWell ⟨Nat.le_of_ble_eq_true rfl, Nat.le_of_ble_eq_true rfl⟩) [0] rfl (of_decide_eq_true rfl) [] rfl rfl rfl rfl hl.1 rfl (Nat.le_of_ble_eq_true rfl) dX12_word_1 ⟨Nat.le_of_ble_eq_true rfl, Nat.le_of_ble_eq_true rfl⟩ [some 0] (of_decide_eq_true rfl) (of_decide_eq_true rfl) rfl rfl rfl (fun H locs hw_4n hP hD hS => ?_)
  refine lv_if_ne (tgt := 8) hx hb dX12_word_4 (of_decide_eq_true rfl) (fun c_5 => ?_) (fun c_5 => ?_)
  · have hfn := (if_neg c_5).symm.trans hfn
    refine lv_aload_n hx hb dX12_word_8 rfl (lv_at hl 0 rfl) ?_
    obtain ⟨o_6, hqo_6, hfn⟩ := zb_s hfn
    refine zcVi (ci := 12) (rest := []) (pc' := 12) (ws' := [(h0, .inr (12, zO a0 (zI b0 6 o_6.2) c0)), zVi (a0 0) k1 1200 f1]) hP hK hD hS hA ⟨hx, hb, hml, hown, hts⟩ (zf_X12_here l dC dI h0 a0 b0 c0 k1 f1 o_6 hqo_6 H.size) (cwV 0 hts gX12_word_X12_here rfl rfl rfl zhd_X12_here ⟨Nat.le_of_ble_eq_true rfl, Nat.le_of_ble_eq_true rfl⟩) [0, 1] rfl (of_decide_eq_true rfl) [0] rfl rfl rfl rfl hl.1 rfl (Nat.le_of_ble_eq_true rfl) dX12_word_9 ⟨Nat.le_of_ble_eq_true rfl, Nat.le_of_ble_eq_true rfl⟩ [some 0, some 1] (of_decide_eq_true rfl) (of_decide_eq_true rfl) rfl rfl rfl (fun H locs hP hD hS => ?_)
    refine lv_pop hx hb dX12_word_12 rfl ?_
    refine lv_aload_n hx hb dX12_word_13 rfl (lv_at hl 0 rfl) ?_
    refine lv_aload_n hx hb dX12_word_14 rfl (lv_at hl 0 rfl) ?_
    refine va_get (D := (dC, dI)) (ci := 12) (v := .int o_6.2) (C := RX12) (T := TX12) (N := 67) hx hb hts zn_X12_word_X12 hown hK hP 0 rfl rfl 6 (of_decide_eq_true rfl) (hts (.fieldLink RX12 29 "ShortEnoughModel" "at" "I") zw_X12_word_896) (fun _ h9 => h9) rfl dX12_word_15 ?_
    refine va_put (D := (dC, dI)) (ci := 12) (v := .int o_6.2) (ty := .int) (C := RX12) (T := TX12) (N := 67) hx hb hts zn_X12_word_X12 tyX12 tyX12_ok nmX12 hown hK hP hD hS 0 rfl rfl 7 (of_decide_eq_true rfl) (hts (.fieldLink RX12 32 "ShortEnoughModel" "begun" "I") zw_X12_word_897) (fun _ h9 => h9) rfl (tyX12_ok 7 (of_decide_eq_true rfl)) rfl rfl (Nat.le_of_ble_eq_true rfl) dX12_word_18 (fun H locs hP hD hS => ?_)
    have hP : va_P (dC, dI) vwCl [(h0, .inr (12, zO a0 (zI (zI b0 6 o_6.2) 7 o_6.2) c0)), zVi (a0 0) k1 1200 f1] H := hP
    have hD := zDW hD hP rfl
    refine lv_aload_n hx hb dX12_word_21 rfl (lv_at hl 0 rfl) ?_
    refine lv_aload_n hx hb dX12_word_22 rfl (lv_at hl 0 rfl) ?_
    refine va_get (D := (dC, dI)) (ci := 12) (v := .int o_6.2) (C := RX12) (T := TX12) (N := 67) hx hb hts zn_X12_word_X12 hown hK hP 0 rfl rfl 6 (of_decide_eq_true rfl) (hts (.fieldLink RX12 29 "ShortEnoughModel" "at" "I") zw_X12_word_896) (fun _ h9 => h9) rfl dX12_word_23 ?_
    obtain ⟨o_10, hqo_10, hfn⟩ := zb_s hfn
    refine zcVb (ci := 12) (rest := []) (pc' := 29) (ws' := [(h0, .inr (12, zO a0 (zI (zI b0 6 o_6.2) 7 o_6.2) c0)), zVi (a0 0) k1 1200 f1]) hP hK hD hS hA ⟨hx, hb, hml, hown, hts⟩ (zf_X12_isSmall l dC dI h0 o_6.2 a0 (zI (zI b0 6 o_6.2) 7 o_6.2) c0 k1 f1 o_10 hqo_10 H.size) (cwV 1 hts gX12_word_X12_isSmall rfl rfl rfl zhd_X12_isSmall ⟨Nat.le_of_ble_eq_true rfl, Nat.le_of_ble_eq_true rfl⟩) [0, 1] rfl (of_decide_eq_true rfl) [0] rfl rfl rfl rfl hl.1 rfl (Nat.le_of_ble_eq_true rfl) dX12_word_26 ⟨Nat.le_of_ble_eq_true rfl, Nat.le_of_ble_eq_true rfl⟩ [some 0, some 1] (of_decide_eq_true rfl) (of_decide_eq_true rfl) rfl rfl rfl (fun H locs hw_13n hP hD hS => ?_)
    refine lv_if_eq (tgt := 58) hx hb dX12_word_29 (of_decide_eq_true rfl) (fun c_14 => ?_) (fun c_14 => ?_)
    · have hfn := (if_pos c_14).symm.trans hfn
      refine lv_aload_n hx hb dX12_word_58 rfl (lv_at hl 0 rfl) ?_
      refine lv_iconst (v := 1) hx hb dX12_word_59 zci_1 ?_
      refine lv_aload_n hx hb dX12_word_60 rfl (lv_at hl 0 rfl) ?_
      refine va_get (D := (dC, dI)) (ci := 12) (v := .int o_6.2) (C := RX12) (T := TX12) (N := 67) hx hb hts zn_X12_word_X12 hown hK hP 0 rfl rfl 6 (of_decide_eq_true rfl) (hts (.fieldLink RX12 29 "ShortEnoughModel" "at" "I") zw_X12_word_896) (fun _ h9 => h9) rfl dX12_word_61 ?_
      obtain ⟨o_15, hqo_15, hfn⟩ := zb_s hfn
      refine zcVv (ci := 12) (rest := []) (pc' := 67) (ws' := [(h0, .inr (12, zO a0 (zI (zI (zI (zI b0 6 o_6.2) 7 o_6.2) 8 o_15.1) 9 o_15.2) c0)), zVi (a0 0) k1 1200 f1]) hP hK hD hS hA ⟨hx, hb, hml, hown, hts⟩ (zf_X12_faults l dC dI h0 1 o_6.2 a0 (zI (zI b0 6 o_6.2) 7 o_6.2) c0 o_15 hqo_15 H.size) (cwV 2 hts gX12_word_X12_faults rfl rfl rfl zhd_X12_faults ⟨Nat.le_of_ble_eq_true rfl, Nat.le_of_ble_eq_true rfl⟩) [0] rfl (of_decide_eq_true rfl) [] rfl rfl rfl rfl hl.1 rfl (Nat.le_of_ble_eq_true rfl) dX12_word_64 ⟨Nat.le_of_ble_eq_true rfl, Nat.le_of_ble_eq_true rfl⟩ [some 0] (of_decide_eq_true rfl) (of_decide_eq_true rfl) rfl rfl rfl (fun H locs hP hD hS => ?_)
      have ho := Option.some.inj hfn
      subst ho
      exact zrv hx hb hr hK hP hD hS hQ trivial hlocks dX12_word_67
    have hfn := (if_neg c_14).symm.trans hfn
    refine lv_aload_n hx hb dX12_word_32 rfl (lv_at hl 0 rfl) ?_
    refine lv_aload_n hx hb dX12_word_33 rfl (lv_at hl 0 rfl) ?_
    refine va_get (D := (dC, dI)) (ci := 12) (v := .int o_6.2) (C := RX12) (T := TX12) (N := 67) hx hb hts zn_X12_word_X12 hown hK hP 0 rfl rfl 6 (of_decide_eq_true rfl) (hts (.fieldLink RX12 29 "ShortEnoughModel" "at" "I") zw_X12_word_896) (fun _ h9 => h9) rfl dX12_word_34 ?_
    refine lv_iconst (v := 1) hx hb dX12_word_37 zci_1 ?_
    refine lv_isub hx hb dX12_word_38 ?_
    obtain ⟨o_19, hqo_19, hfn⟩ := zb_s hfn
    refine zcVb (ci := 12) (rest := []) (pc' := 42) (ws' := [(h0, .inr (12, zO a0 (zI (zI b0 6 o_6.2) 7 o_6.2) c0)), zVi (a0 0) k1 1200 f1]) hP hK hD hS hA ⟨hx, hb, hml, hown, hts⟩ (zf_X12_isSmall l dC dI h0 (o_6.2 - 1) a0 (zI (zI b0 6 o_6.2) 7 o_6.2) c0 k1 f1 o_19 hqo_19 H.size) (cwV 1 hts gX12_word_X12_isSmall rfl rfl rfl zhd_X12_isSmall ⟨Nat.le_of_ble_eq_true rfl, Nat.le_of_ble_eq_true rfl⟩) [0, 1] rfl (of_decide_eq_true rfl) [0] rfl rfl rfl rfl hl.1 rfl (Nat.le_of_ble_eq_true rfl) dX12_word_39 ⟨Nat.le_of_ble_eq_true rfl, Nat.le_of_ble_eq_true rfl⟩ [some 0, some 1] (of_decide_eq_true rfl) (of_decide_eq_true rfl) rfl rfl rfl (fun H locs hw_22n hP hD hS => ?_)
    refine lv_if_ne (tgt := 58) hx hb dX12_word_42 (of_decide_eq_true rfl) (fun c_23 => ?_) (fun c_23 => ?_)
    · have hfn := (if_neg c_23).symm.trans hfn
      refine lv_aload_n hx hb dX12_word_58 rfl (lv_at hl 0 rfl) ?_
      refine lv_iconst (v := 1) hx hb dX12_word_59 zci_1 ?_
      refine lv_aload_n hx hb dX12_word_60 rfl (lv_at hl 0 rfl) ?_
      refine va_get (D := (dC, dI)) (ci := 12) (v := .int o_6.2) (C := RX12) (T := TX12) (N := 67) hx hb hts zn_X12_word_X12 hown hK hP 0 rfl rfl 6 (of_decide_eq_true rfl) (hts (.fieldLink RX12 29 "ShortEnoughModel" "at" "I") zw_X12_word_896) (fun _ h9 => h9) rfl dX12_word_61 ?_
      obtain ⟨o_24, hqo_24, hfn⟩ := zb_s hfn
      refine zcVv (ci := 12) (rest := []) (pc' := 67) (ws' := [(h0, .inr (12, zO a0 (zI (zI (zI (zI b0 6 o_6.2) 7 o_6.2) 8 o_24.1) 9 o_24.2) c0)), zVi (a0 0) k1 1200 f1]) hP hK hD hS hA ⟨hx, hb, hml, hown, hts⟩ (zf_X12_faults l dC dI h0 1 o_6.2 a0 (zI (zI b0 6 o_6.2) 7 o_6.2) c0 o_24 hqo_24 H.size) (cwV 2 hts gX12_word_X12_faults rfl rfl rfl zhd_X12_faults ⟨Nat.le_of_ble_eq_true rfl, Nat.le_of_ble_eq_true rfl⟩) [0] rfl (of_decide_eq_true rfl) [] rfl rfl rfl rfl hl.1 rfl (Nat.le_of_ble_eq_true rfl) dX12_word_64 ⟨Nat.le_of_ble_eq_true rfl, Nat.le_of_ble_eq_true rfl⟩ [some 0] (of_decide_eq_true rfl) (of_decide_eq_true rfl) rfl rfl rfl (fun H locs hP hD hS => ?_)
      have ho := Option.some.inj hfn
      subst ho
      exact zrv hx hb hr hK hP hD hS hQ trivial hlocks dX12_word_67
    have hfn := (if_pos c_23).symm.trans hfn
    refine lv_aload_n hx hb dX12_word_45 rfl (lv_at hl 0 rfl) ?_
    refine lv_aload_n hx hb dX12_word_46 rfl (lv_at hl 0 rfl) ?_
    refine va_get (D := (dC, dI)) (ci := 12) (v := .int o_6.2) (C := RX12) (T := TX12) (N := 67) hx hb hts zn_X12_word_X12 hown hK hP 0 rfl rfl 6 (of_decide_eq_true rfl) (hts (.fieldLink RX12 29 "ShortEnoughModel" "at" "I") zw_X12_word_896) (fun _ h9 => h9) rfl dX12_word_47 ?_
    refine lv_iconst (v := 1) hx hb dX12_word_50 zci_1 ?_
    refine lv_isub hx hb dX12_word_51 ?_
    obtain ⟨o_28, hqo_28, hfn⟩ := zb_s hfn
    refine zcVb (ci := 12) (rest := []) (pc' := 55) (ws' := [(h0, .inr (12, zO a0 (zI (zI b0 6 o_6.2) 7 o_6.2) c0)), zVi (a0 0) k1 1200 f1]) hP hK hD hS hA ⟨hx, hb, hml, hown, hts⟩ (zf_X12_isDigit l dC dI h0 (o_6.2 - 1) a0 (zI (zI b0 6 o_6.2) 7 o_6.2) c0 k1 f1 o_28 hqo_28 H.size) (cwV 1 hts gX12_word_X12_isDigit rfl rfl rfl zhd_X12_isDigit ⟨Nat.le_of_ble_eq_true rfl, Nat.le_of_ble_eq_true rfl⟩) [0, 1] rfl (of_decide_eq_true rfl) [0] rfl rfl rfl rfl hl.1 rfl (Nat.le_of_ble_eq_true rfl) dX12_word_52 ⟨Nat.le_of_ble_eq_true rfl, Nat.le_of_ble_eq_true rfl⟩ [some 0, some 1] (of_decide_eq_true rfl) (of_decide_eq_true rfl) rfl rfl rfl (fun H locs hw_31n hP hD hS => ?_)
    refine lv_if_eq (tgt := 68) hx hb dX12_word_55 (of_decide_eq_true rfl) (fun c_32 => ?_) (fun c_32 => ?_)
    · have hfn := (if_pos c_32).symm.trans hfn
      obtain ⟨bd_33, ebd_33, hfn⟩ := zl_g hfn
      have lp_33 : ∀ (n : Nat) (s_33 : Int32) (H : Heap) (locs : List Loc) (ls : Array Slot), zl bd_33 n s_33 = some o → va_P (dC, dI) vwCl [(h0, .inr (12, zO a0 (zI (zI b0 6 s_33) 7 o_6.2) c0)), zVi (a0 0) k1 1200 f1] H → va_D A [(h0, .inr (12, zO a0 (zI (zI b0 6 s_33) 7 o_6.2) c0)), zVi (a0 0) k1 1200 f1] → va_S A s.heap H locs → lv_has ls 1 [(0, .ref h0)] → W p l e (headSpec wsX12_word ({ frames := 2, cells := 0, slots := 0, locals := 42 })).room s m ([.ref h0] : List Value).toArray below meth c H locs 0 0 Q (F0 m 68 ls []) := by
        intro n
        induction n with
        | zero => exact fun _ _ _ _ hfn => (zl_0 hfn).elim
        | succ n ih_33 =>
          intro s_33 H locs ls hfn hP hD hS hl
          have hfn := zl_s ebd_33 hfn
          refine lv_aload_n hx hb dX12_word_68 rfl (lv_at hl 0 rfl) ?_
          refine lv_aload_n hx hb dX12_word_69 rfl (lv_at hl 0 rfl) ?_
          refine va_get (D := (dC, dI)) (ci := 12) (v := .int s_33) (C := RX12) (T := TX12) (N := 67) hx hb hts zn_X12_word_X12 hown hK hP 0 rfl rfl 6 (of_decide_eq_true rfl) (hts (.fieldLink RX12 29 "ShortEnoughModel" "at" "I") zw_X12_word_896) (fun _ h9 => h9) rfl dX12_word_70 ?_
          obtain ⟨o_34, hqo_34, hfn⟩ := zb_s hfn
          refine zcVb (ci := 12) (rest := []) (pc' := 76) (ws' := [(h0, .inr (12, zO a0 (zI (zI b0 6 s_33) 7 o_6.2) c0)), zVi (a0 0) k1 1200 f1]) hP hK hD hS hA ⟨hx, hb, hml, hown, hts⟩ (zf_X12_isSmall l dC dI h0 s_33 a0 (zI (zI b0 6 s_33) 7 o_6.2) c0 k1 f1 o_34 hqo_34 H.size) (cwV 1 hts gX12_word_X12_isSmall rfl rfl rfl zhd_X12_isSmall ⟨Nat.le_of_ble_eq_true rfl, Nat.le_of_ble_eq_true rfl⟩) [0, 1] rfl (of_decide_eq_true rfl) [0] rfl rfl rfl rfl hl.1 rfl (Nat.le_of_ble_eq_true rfl) dX12_word_73 ⟨Nat.le_of_ble_eq_true rfl, Nat.le_of_ble_eq_true rfl⟩ [some 0, some 1] (of_decide_eq_true rfl) (of_decide_eq_true rfl) rfl rfl rfl (fun H locs hw_37n hP hD hS => ?_)
          refine lv_if_eq (tgt := 92) hx hb dX12_word_76 (of_decide_eq_true rfl) (fun c_38 => ?_) (fun c_38 => ?_)
          · have hfn := (if_pos c_38).symm.trans hfn
            have ho := Option.some.inj hfn
            subst ho
            exact zrv hx hb hr hK hP hD hS hQ trivial hlocks dX12_word_92
          have hfn := (if_neg c_38).symm.trans hfn
          refine lv_aload_n hx hb dX12_word_79 rfl (lv_at hl 0 rfl) ?_
          refine lv_dup hx hb dX12_word_80 rfl ?_
          refine va_get (D := (dC, dI)) (ci := 12) (v := .int s_33) (C := RX12) (T := TX12) (N := 67) hx hb hts zn_X12_word_X12 hown hK hP 0 rfl rfl 6 (of_decide_eq_true rfl) (hts (.fieldLink RX12 29 "ShortEnoughModel" "at" "I") zw_X12_word_896) (fun _ h9 => h9) rfl dX12_word_81 ?_
          refine lv_iconst (v := 1) hx hb dX12_word_84 zci_1 ?_
          refine lv_iadd hx hb dX12_word_85 ?_
          refine va_put (D := (dC, dI)) (ci := 12) (v := .int (s_33 + 1)) (ty := .int) (C := RX12) (T := TX12) (N := 67) hx hb hts zn_X12_word_X12 tyX12 tyX12_ok nmX12 hown hK hP hD hS 0 rfl rfl 6 (of_decide_eq_true rfl) (hts (.fieldLink RX12 29 "ShortEnoughModel" "at" "I") zw_X12_word_896) (fun _ h9 => h9) rfl (tyX12_ok 6 (of_decide_eq_true rfl)) rfl rfl (Nat.le_of_ble_eq_true rfl) dX12_word_86 (fun H locs hP hD hS => ?_)
          have hP : va_P (dC, dI) vwCl [(h0, .inr (12, zO a0 (zI (zI b0 6 (s_33 + 1)) 7 o_6.2) c0)), zVi (a0 0) k1 1200 f1] H := hP
          have hD := zDW hD hP rfl
          refine lv_goto (tgt := 68) hx hb dX12_word_89 (of_decide_eq_true rfl) ?_
          exact ih_33 (s_33 + 1) H locs ls hfn hP hD hS (lv_sub hl [0] rfl)
      exact lp_33 _ o_6.2 H locs ls hfn hP hD hS (lv_sub hl [0] rfl)
    have hfn := (if_neg c_32).symm.trans hfn
    refine lv_aload_n hx hb dX12_word_58 rfl (lv_at hl 0 rfl) ?_
    refine lv_iconst (v := 1) hx hb dX12_word_59 zci_1 ?_
    refine lv_aload_n hx hb dX12_word_60 rfl (lv_at hl 0 rfl) ?_
    refine va_get (D := (dC, dI)) (ci := 12) (v := .int o_6.2) (C := RX12) (T := TX12) (N := 67) hx hb hts zn_X12_word_X12 hown hK hP 0 rfl rfl 6 (of_decide_eq_true rfl) (hts (.fieldLink RX12 29 "ShortEnoughModel" "at" "I") zw_X12_word_896) (fun _ h9 => h9) rfl dX12_word_61 ?_
    obtain ⟨o_39, hqo_39, hfn⟩ := zb_s hfn
    refine zcVv (ci := 12) (rest := []) (pc' := 67) (ws' := [(h0, .inr (12, zO a0 (zI (zI (zI (zI b0 6 o_6.2) 7 o_6.2) 8 o_39.1) 9 o_39.2) c0)), zVi (a0 0) k1 1200 f1]) hP hK hD hS hA ⟨hx, hb, hml, hown, hts⟩ (zf_X12_faults l dC dI h0 1 o_6.2 a0 (zI (zI b0 6 o_6.2) 7 o_6.2) c0 o_39 hqo_39 H.size) (cwV 2 hts gX12_word_X12_faults rfl rfl rfl zhd_X12_faults ⟨Nat.le_of_ble_eq_true rfl, Nat.le_of_ble_eq_true rfl⟩) [0] rfl (of_decide_eq_true rfl) [] rfl rfl rfl rfl hl.1 rfl (Nat.le_of_ble_eq_true rfl) dX12_word_64 ⟨Nat.le_of_ble_eq_true rfl, Nat.le_of_ble_eq_true rfl⟩ [some 0] (of_decide_eq_true rfl) (of_decide_eq_true rfl) rfl rfl rfl (fun H locs hP hD hS => ?_)
    have ho := Option.some.inj hfn
    subst ho
    exact zrv hx hb hr hK hP hD hS hQ trivial hlocks dX12_word_67
  have hfn := (if_pos c_5).symm.trans hfn
  have ho := Option.some.inj hfn
  subst ho
  exact zrv hx hb hr hK hP hD hS hQ trivial hlocks dX12_word_7
theorem zn_X12_must_X12 : ∀ w ∈ wsX120, w ∈ wsX12_must := fun _ h => List.mem_cons_of_mem _ (List.mem_append_right _ h)
theorem zw_X12_must_899 : Cond.fieldLink RX12 32 "ShortEnoughModel" "begun" "I" ∈ wsX12_must := List.mem_of_getElem? (i := 1) (by decide +kernel)
set_option maxHeartbeats 4000000 in
set_option maxRecDepth 100000 in
theorem zf_X12_must (l : Launch) (dC : Nat → ClassId) (dI : Nat → Nat → Nat) (h0 : Nat) (p1 : Int32) (a0 : Nat → Nat) (b0 : Nat → Int32) (c0 : Nat → Int64) (k1 : Nat) (f1 : Nat → Int32) (k2 : Nat) (f2 : Nat → Int32) (o : Int32 × Int32 × Int32 × Int32) (hfn : fn_X12_must p1 (b0 5) (b0 6) (b0 7) (b0 8) (b0 9) f1 f2 = some o) (sz : Nat) : zMv l yX12_must wsX12_must ({ frames := 3, cells := 0, slots := 0, locals := 62 }) (dC, dI) vwCl [.ref h0, .int p1] [(h0, .inr (12, zO a0 b0 c0)), zVi (a0 0) k1 1200 f1, zVi (a0 10) k2 71 f2] [(k1, .int), (k2, .int)] (fun _ => True) [(h0, .inr (12, zO a0 (zI (zI (zI (zI b0 6 o.1) 7 o.2.1) 8 o.2.2.1) 9 o.2.2.2) c0)), zVi (a0 0) k1 1200 f1, zVi (a0 10) k2 71 f2] [(k1, .int), (k2, .int)] sz := by
  refine zgov (cc := cX12_must) (maxL := 2) (ret := none) (C0 := RX12) (lv0 := [(0, .ref h0), (1, .int p1)]) zpl_X12 rfl rfl rfl (Nat.le_of_ble_eq_true rfl) ?_
  intro p e s m below meth c A ls Q hx hb hr hts hown hlocks hml hP hK hD hA hS hl hQ
  unfold fn_X12_must at hfn
  refine lv_aload_n hx hb dX12_must_0 rfl (lv_at hl 0 rfl) ?_
  obtain ⟨o_1, hqo_1, hfn⟩ := zb_s hfn
  refine zcVv (ci := 12) (rest := []) (pc' := 4) (ws' := [(h0, .inr (12, zO a0 (zI (zI (zI (zI b0 6 o_1.1) 7 o_1.2.1) 8 o_1.2.2.1) 9 o_1.2.2.2) c0)), zVi (a0 0) k1 1200 f1, zVi (a0 10) k2 71 f2]) hP hK hD hS hA ⟨hx, hb, hml, hown, hts⟩ (zf_X12_word l dC dI h0 a0 b0 c0 k1 f1 o_1 hqo_1 s.heap.size) (cwV 0 hts gX12_must_X12_word rfl rfl rfl zhd_X12_word ⟨Nat.le_of_ble_eq_true rfl, Nat.le_of_ble_eq_true rfl⟩) [0, 1] rfl (of_decide_eq_true rfl) [0] rfl rfl rfl rfl hl.1 rfl (Nat.le_of_ble_eq_true rfl) dX12_must_1 ⟨Nat.le_of_ble_eq_true rfl, Nat.le_of_ble_eq_true rfl⟩ [some 0, some 1] (of_decide_eq_true rfl) (of_decide_eq_true rfl) rfl rfl rfl (fun H locs hP hD hS => ?_)
  refine lv_aload_n hx hb dX12_must_4 rfl (lv_at hl 0 rfl) ?_
  obtain ⟨o_5, hqo_5, hfn⟩ := zb_s hfn
  refine zcVb (ci := 12) (rest := []) (pc' := 8) (ws' := [(h0, .inr (12, zO a0 (zI (zI (zI (zI b0 6 o_1.1) 7 o_1.2.1) 8 o_1.2.2.1) 9 o_1.2.2.2) c0)), zVi (a0 0) k1 1200 f1, zVi (a0 10) k2 71 f2]) hP hK hD hS hA ⟨hx, hb, hml, hown, hts⟩ (zf_X12_goesWell l dC dI h0 a0 (zI (zI (zI (zI b0 6 o_1.1) 7 o_1.2.1) 8 o_1.2.2.1) 9 o_1.2.2.2) c0 o_5 hqo_5 H.size) (cwV 0 hts gX12_must_X12_goesWell rfl rfl rfl zhd_X12_goesWell ⟨Nat.le_of_ble_eq_true rfl, Nat.le_of_ble_eq_true rfl⟩) [0] rfl (of_decide_eq_true rfl) [] rfl rfl rfl rfl hl.1 rfl (Nat.le_of_ble_eq_true rfl) dX12_must_5 ⟨Nat.le_of_ble_eq_true rfl, Nat.le_of_ble_eq_true rfl⟩ [some 0] (of_decide_eq_true rfl) (of_decide_eq_true rfl) rfl rfl rfl (fun H locs hw_8n hP hD hS => ?_)
  refine lv_if_eq (tgt := 28) hx hb dX12_must_8 (of_decide_eq_true rfl) (fun c_9 => ?_) (fun c_9 => ?_)
  · have hfn := (if_pos c_9).symm.trans hfn
    have ho := Option.some.inj hfn
    subst ho
    exact zrv hx hb hr hK hP hD hS hQ trivial hlocks dX12_must_28
  have hfn := (if_neg c_9).symm.trans hfn
  refine lv_aload_n hx hb dX12_must_11 rfl (lv_at hl 0 rfl) ?_
  obtain ⟨o_10, hqo_10, hfn⟩ := zb_s hfn
  refine zcVi (ci := 12) (rest := []) (pc' := 15) (ws' := [(h0, .inr (12, zO a0 (zI (zI (zI (zI b0 6 o_1.1) 7 o_1.2.1) 8 o_1.2.2.1) 9 o_1.2.2.2) c0)), zVi (a0 0) k1 1200 f1, zVi (a0 10) k2 71 f2]) hP hK hD hS hA ⟨hx, hb, hml, hown, hts⟩ (zf_X12_own l dC dI h0 a0 (zI (zI (zI (zI b0 6 o_1.1) 7 o_1.2.1) 8 o_1.2.2.1) 9 o_1.2.2.2) c0 k2 f2 k1 f1 o_10 hqo_10 H.size) (cwV 0 hts gX12_must_X12_own rfl rfl rfl zhd_X12_own ⟨Nat.le_of_ble_eq_true rfl, Nat.le_of_ble_eq_true rfl⟩) [0, 2, 1] rfl (of_decide_eq_true rfl) [1, 0] rfl rfl rfl rfl hl.1 rfl (Nat.le_of_ble_eq_true rfl) dX12_must_12 ⟨Nat.le_of_ble_eq_true rfl, Nat.le_of_ble_eq_true rfl⟩ [some 0, some 2, some 1] (of_decide_eq_true rfl) (of_decide_eq_true rfl) rfl rfl rfl (fun H locs hP hD hS => ?_)
  refine lv_iload_n hx hb dX12_must_15 rfl (lv_at hl 1 rfl) ?_
  refine lv_icmp_eq (tgt := 28) hx hb dX12_must_16 (of_decide_eq_true rfl) (fun c_14 => ?_) (fun c_14 => ?_)
  · have hfn := (if_pos c_14).symm.trans hfn
    have ho := Option.some.inj hfn
    subst ho
    exact zrv hx hb hr hK hP hD hS hQ trivial hlocks dX12_must_28
  have hfn := (if_neg c_14).symm.trans hfn
  refine lv_aload_n hx hb dX12_must_19 rfl (lv_at hl 0 rfl) ?_
  refine lv_iconst (v := 1) hx hb dX12_must_20 zci_1 ?_
  refine lv_aload_n hx hb dX12_must_21 rfl (lv_at hl 0 rfl) ?_
  refine va_get (D := (dC, dI)) (ci := 12) (v := .int o_1.2.1) (C := RX12) (T := TX12) (N := 67) hx hb hts zn_X12_must_X12 hown hK hP 0 rfl rfl 7 (of_decide_eq_true rfl) (hts (.fieldLink RX12 32 "ShortEnoughModel" "begun" "I") zw_X12_must_899) (fun _ h9 => h9) rfl dX12_must_22 ?_
  obtain ⟨o_15, hqo_15, hfn⟩ := zb_s hfn
  refine zcVv (ci := 12) (rest := []) (pc' := 28) (ws' := [(h0, .inr (12, zO a0 (zI (zI (zI (zI b0 6 o_1.1) 7 o_1.2.1) 8 o_15.1) 9 o_15.2) c0)), zVi (a0 0) k1 1200 f1, zVi (a0 10) k2 71 f2]) hP hK hD hS hA ⟨hx, hb, hml, hown, hts⟩ (zf_X12_faults l dC dI h0 1 o_1.2.1 a0 (zI (zI (zI (zI b0 6 o_1.1) 7 o_1.2.1) 8 o_1.2.2.1) 9 o_1.2.2.2) c0 o_15 hqo_15 H.size) (cwV 2 hts gX12_must_X12_faults rfl rfl rfl zhd_X12_faults ⟨Nat.le_of_ble_eq_true rfl, Nat.le_of_ble_eq_true rfl⟩) [0] rfl (of_decide_eq_true rfl) [] rfl rfl rfl rfl hl.1 rfl (Nat.le_of_ble_eq_true rfl) dX12_must_25 ⟨Nat.le_of_ble_eq_true rfl, Nat.le_of_ble_eq_true rfl⟩ [some 0] (of_decide_eq_true rfl) (of_decide_eq_true rfl) rfl rfl rfl (fun H locs hP hD hS => ?_)
  have ho := Option.some.inj hfn
  subst ho
  exact zrv hx hb hr hK hP hD hS hQ trivial hlocks dX12_must_28
theorem zn_X12_name_X12 : ∀ w ∈ wsX120, w ∈ wsX12_name := fun _ h => List.mem_cons_of_mem _ (List.mem_append_right _ h)
theorem zw_X12_name_901 : Cond.fieldLink RX12 29 "ShortEnoughModel" "at" "I" ∈ wsX12_name := List.mem_of_getElem? (i := 1) (by decide +kernel)
theorem zw_X12_name_902 : Cond.fieldLink RX12 32 "ShortEnoughModel" "begun" "I" ∈ wsX12_name := List.mem_of_getElem? (i := 2) (by decide +kernel)
theorem zw_X12_name_903 : Cond.fieldLink RX12 7 "ShortEnoughModel" "tape" "[I" ∈ wsX12_name := List.mem_of_getElem? (i := 3) (by decide +kernel)
set_option maxHeartbeats 4000000 in
set_option maxRecDepth 100000 in
theorem zf_X12_name (l : Launch) (dC : Nat → ClassId) (dI : Nat → Nat → Nat) (h0 : Nat) (a0 : Nat → Nat) (b0 : Nat → Int32) (c0 : Nat → Int64) (k1 : Nat) (f1 : Nat → Int32) (k2 : Nat) (f2 : Nat → Int32) (o : Int32 × Int32 × Int32 × Int32 × Int32) (hfn : fn_X12_name (b0 5) (b0 6) (b0 7) (b0 8) (b0 9) f1 f2 = some o) (sz : Nat) : zMi l yX12_name wsX12_name ({ frames := 3, cells := 0, slots := 0, locals := 62 }) (dC, dI) vwCl [.ref h0] [(h0, .inr (12, zO a0 b0 c0)), zVi (a0 0) k1 1200 f1, zVi (a0 10) k2 71 f2] [(k1, .int), (k2, .int)] (fun r _ => r = o.1) [(h0, .inr (12, zO a0 (zI (zI (zI (zI b0 6 o.2.1) 7 o.2.2.1) 8 o.2.2.2.1) 9 o.2.2.2.2) c0)), zVi (a0 0) k1 1200 f1, zVi (a0 10) k2 71 f2] [(k1, .int), (k2, .int)] sz := by
  refine zgoi (cc := cX12_name) (maxL := 3) (ret := (some .int)) (C0 := RX12) (lv0 := [(0, .ref h0)]) zpl_X12 rfl rfl rfl (Nat.le_of_ble_eq_true rfl) ?_
  intro p e s m below meth c A ls Q hx hb hr hts hown hlocks hml hP hK hD hA hS hl hQ
  unfold fn_X12_name at hfn
  refine lv_aload_n hx hb dX12_name_0 rfl (lv_at hl 0 rfl) ?_
  obtain ⟨o_1, hqo_1, hfn⟩ := zb_s hfn
  refine zcVv (ci := 12) (rest := []) (pc' := 4) (ws' := [(h0, .inr (12, zO a0 (zI (zI (zI (zI b0 6 o_1.1) 7 o_1.2.1) 8 o_1.2.2.1) 9 o_1.2.2.2) c0)), zVi (a0 0) k1 1200 f1, zVi (a0 10) k2 71 f2]) hP hK hD hS hA ⟨hx, hb, hml, hown, hts⟩ (zf_X12_word l dC dI h0 a0 b0 c0 k1 f1 o_1 hqo_1 s.heap.size) (cwV 0 hts gX12_name_X12_word rfl rfl rfl zhd_X12_word ⟨Nat.le_of_ble_eq_true rfl, Nat.le_of_ble_eq_true rfl⟩) [0, 1] rfl (of_decide_eq_true rfl) [0] rfl rfl rfl rfl hl.1 rfl (Nat.le_of_ble_eq_true rfl) dX12_name_1 ⟨Nat.le_of_ble_eq_true rfl, Nat.le_of_ble_eq_true rfl⟩ [some 0, some 1] (of_decide_eq_true rfl) (of_decide_eq_true rfl) rfl rfl rfl (fun H locs hP hD hS => ?_)
  refine lv_aload_n hx hb dX12_name_4 rfl (lv_at hl 0 rfl) ?_
  obtain ⟨o_5, hqo_5, hfn⟩ := zb_s hfn
  refine zcVb (ci := 12) (rest := []) (pc' := 8) (ws' := [(h0, .inr (12, zO a0 (zI (zI (zI (zI b0 6 o_1.1) 7 o_1.2.1) 8 o_1.2.2.1) 9 o_1.2.2.2) c0)), zVi (a0 0) k1 1200 f1, zVi (a0 10) k2 71 f2]) hP hK hD hS hA ⟨hx, hb, hml, hown, hts⟩ (zf_X12_goesWell l dC dI h0 a0 (zI (zI (zI (zI b0 6 o_1.1) 7 o_1.2.1) 8 o_1.2.2.1) 9 o_1.2.2.2) c0 o_5 hqo_5 H.size) (cwV 0 hts gX12_name_X12_goesWell rfl rfl rfl zhd_X12_goesWell ⟨Nat.le_of_ble_eq_true rfl, Nat.le_of_ble_eq_true rfl⟩) [0] rfl (of_decide_eq_true rfl) [] rfl rfl rfl rfl hl.1 rfl (Nat.le_of_ble_eq_true rfl) dX12_name_5 ⟨Nat.le_of_ble_eq_true rfl, Nat.le_of_ble_eq_true rfl⟩ [some 0] (of_decide_eq_true rfl) (of_decide_eq_true rfl) rfl rfl rfl (fun H locs hw_8n hP hD hS => ?_)
  obtain ⟨j_9, ej_9, hfn⟩ := zj_g hfn
  have jp_9 : ∀ (s_9 : Int32 × Int32) (H : Heap) (locs : List Loc) (ls : Array Slot), j_9 s_9 = some o → va_P (dC, dI) vwCl [(h0, .inr (12, zO a0 (zI (zI (zI (zI b0 6 o_1.1) 7 o_1.2.1) 8 s_9.1) 9 s_9.2) c0)), zVi (a0 0) k1 1200 f1, zVi (a0 10) k2 71 f2] H → va_D A [(h0, .inr (12, zO a0 (zI (zI (zI (zI b0 6 o_1.1) 7 o_1.2.1) 8 s_9.1) 9 s_9.2) c0)), zVi (a0 0) k1 1200 f1, zVi (a0 10) k2 71 f2] → va_S A s.heap H locs → lv_has ls 3 [(0, .ref h0)] → W p l e (headSpec wsX12_name ({ frames := 3, cells := 0, slots := 0, locals := 62 })).room s m ([.ref h0] : List Value).toArray below meth c H locs 0 0 Q (F0 m 42 ls []) := by
    intro s_9 H locs ls hfn hP hD hS hl
    have hfn := zj_s ej_9 hfn
    refine lv_iconst (v := 0) hx hb dX12_name_42 zci_0 ?_
    refine lv_istore_n (lv' := [(1, .int 0), (0, .ref h0)]) hx hb dX12_name_43 rfl hl (of_decide_eq_true rfl) rfl (fun ls hl => ?_)
    refine lv_aload_n hx hb dX12_name_44 rfl (lv_at hl 1 rfl) ?_
    refine va_get (D := (dC, dI)) (ci := 12) (v := .int o_1.1) (C := RX12) (T := TX12) (N := 67) hx hb hts zn_X12_name_X12 hown hK hP 0 rfl rfl 6 (of_decide_eq_true rfl) (hts (.fieldLink RX12 29 "ShortEnoughModel" "at" "I") zw_X12_name_901) (fun _ h9 => h9) rfl dX12_name_45 ?_
    refine lv_iconst (v := 1) hx hb dX12_name_48 zci_1 ?_
    refine lv_isub hx hb dX12_name_49 ?_
    refine lv_istore_n (lv' := [(2, .int (o_1.1 - 1)), (1, .int 0), (0, .ref h0)]) hx hb dX12_name_50 rfl hl (of_decide_eq_true rfl) rfl (fun ls hl => ?_)
    obtain ⟨bd_10, ebd_10, hfn⟩ := zl_g hfn
    have lp_10 : ∀ (n : Nat) (s_10 : Int32 × Int32) (H : Heap) (locs : List Loc) (ls : Array Slot), zl bd_10 n s_10 = some o → va_P (dC, dI) vwCl [(h0, .inr (12, zO a0 (zI (zI (zI (zI b0 6 o_1.1) 7 o_1.2.1) 8 s_9.1) 9 s_9.2) c0)), zVi (a0 0) k1 1200 f1, zVi (a0 10) k2 71 f2] H → va_D A [(h0, .inr (12, zO a0 (zI (zI (zI (zI b0 6 o_1.1) 7 o_1.2.1) 8 s_9.1) 9 s_9.2) c0)), zVi (a0 0) k1 1200 f1, zVi (a0 10) k2 71 f2] → va_S A s.heap H locs → lv_has ls 3 [(2, .int s_10.2), (1, .int s_10.1), (0, .ref h0)] → W p l e (headSpec wsX12_name ({ frames := 3, cells := 0, slots := 0, locals := 62 })).room s m ([.ref h0] : List Value).toArray below meth c H locs 0 0 Q (F0 m 51 ls []) := by
      intro n
      induction n with
      | zero => exact fun _ _ _ _ hfn => (zl_0 hfn).elim
      | succ n ih_10 =>
        intro s_10 H locs ls hfn hP hD hS hl
        have hfn := zl_s ebd_10 hfn
        refine lv_iload_n hx hb dX12_name_51 rfl (lv_at hl 0 rfl) ?_
        refine lv_aload_n hx hb dX12_name_52 rfl (lv_at hl 2 rfl) ?_
        refine va_get (D := (dC, dI)) (ci := 12) (v := .int o_1.2.1) (C := RX12) (T := TX12) (N := 67) hx hb hts zn_X12_name_X12 hown hK hP 0 rfl rfl 7 (of_decide_eq_true rfl) (hts (.fieldLink RX12 32 "ShortEnoughModel" "begun" "I") zw_X12_name_902) (fun _ h9 => h9) rfl dX12_name_53 ?_
        refine lv_icmp_lt (tgt := 87) hx hb dX12_name_56 (of_decide_eq_true rfl) (fun c_11 => ?_) (fun c_11 => ?_)
        · have hfn := (if_pos c_11).symm.trans hfn
          refine lv_aload_n hx hb dX12_name_87 rfl (lv_at hl 2 rfl) ?_
          obtain ⟨o_12, hqo_12, hfn⟩ := zb_s hfn
          refine zcVb (ci := 12) (rest := []) (pc' := 91) (ws' := [(h0, .inr (12, zO a0 (zI (zI (zI (zI b0 6 o_1.1) 7 o_1.2.1) 8 s_9.1) 9 s_9.2) c0)), zVi (a0 0) k1 1200 f1, zVi (a0 10) k2 71 f2]) hP hK hD hS hA ⟨hx, hb, hml, hown, hts⟩ (zf_X12_goesWell l dC dI h0 a0 (zI (zI (zI (zI b0 6 o_1.1) 7 o_1.2.1) 8 s_9.1) 9 s_9.2) c0 o_12 hqo_12 H.size) (cwV 0 hts gX12_name_X12_goesWell rfl rfl rfl zhd_X12_goesWell ⟨Nat.le_of_ble_eq_true rfl, Nat.le_of_ble_eq_true rfl⟩) [0] rfl (of_decide_eq_true rfl) [] rfl rfl rfl rfl hl.1 rfl (Nat.le_of_ble_eq_true rfl) dX12_name_88 ⟨Nat.le_of_ble_eq_true rfl, Nat.le_of_ble_eq_true rfl⟩ [some 0] (of_decide_eq_true rfl) (of_decide_eq_true rfl) rfl rfl rfl (fun H locs hw_15n hP hD hS => ?_)
          refine lv_if_eq (tgt := 98) hx hb dX12_name_91 (of_decide_eq_true rfl) (fun c_16 => ?_) (fun c_16 => ?_)
          · have hfn := (if_pos c_16).symm.trans hfn
            refine lv_iconst (v := 0) hx hb dX12_name_98 zci_0 ?_
            have ho := Option.some.inj hfn
            subst ho
            exact zri hx hb hr hK hP hD hS hQ rfl hlocks dX12_name_99
          have hfn := (if_neg c_16).symm.trans hfn
          refine lv_iload_n hx hb dX12_name_94 rfl (lv_at hl 1 rfl) ?_
          refine lv_goto (tgt := 99) hx hb dX12_name_95 (of_decide_eq_true rfl) ?_
          have ho := Option.some.inj hfn
          subst ho
          exact zri hx hb hr hK hP hD hS hQ rfl hlocks dX12_name_99
        have hfn := (if_neg c_11).symm.trans hfn
        refine lv_aload_n hx hb dX12_name_59 rfl (lv_at hl 2 rfl) ?_
        obtain ⟨o_17, hqo_17, hfn⟩ := zb_s hfn
        refine zcVb (ci := 12) (rest := []) (pc' := 63) (ws' := [(h0, .inr (12, zO a0 (zI (zI (zI (zI b0 6 o_1.1) 7 o_1.2.1) 8 s_9.1) 9 s_9.2) c0)), zVi (a0 0) k1 1200 f1, zVi (a0 10) k2 71 f2]) hP hK hD hS hA ⟨hx, hb, hml, hown, hts⟩ (zf_X12_goesWell l dC dI h0 a0 (zI (zI (zI (zI b0 6 o_1.1) 7 o_1.2.1) 8 s_9.1) 9 s_9.2) c0 o_17 hqo_17 H.size) (cwV 0 hts gX12_name_X12_goesWell rfl rfl rfl zhd_X12_goesWell ⟨Nat.le_of_ble_eq_true rfl, Nat.le_of_ble_eq_true rfl⟩) [0] rfl (of_decide_eq_true rfl) [] rfl rfl rfl rfl hl.1 rfl (Nat.le_of_ble_eq_true rfl) dX12_name_60 ⟨Nat.le_of_ble_eq_true rfl, Nat.le_of_ble_eq_true rfl⟩ [some 0] (of_decide_eq_true rfl) (of_decide_eq_true rfl) rfl rfl rfl (fun H locs hw_20n hP hD hS => ?_)
        refine lv_if_eq (tgt := 87) hx hb dX12_name_63 (of_decide_eq_true rfl) (fun c_21 => ?_) (fun c_21 => ?_)
        · have hfn := (if_pos c_21).symm.trans hfn
          refine lv_aload_n hx hb dX12_name_87 rfl (lv_at hl 2 rfl) ?_
          obtain ⟨o_22, hqo_22, hfn⟩ := zb_s hfn
          refine zcVb (ci := 12) (rest := []) (pc' := 91) (ws' := [(h0, .inr (12, zO a0 (zI (zI (zI (zI b0 6 o_1.1) 7 o_1.2.1) 8 s_9.1) 9 s_9.2) c0)), zVi (a0 0) k1 1200 f1, zVi (a0 10) k2 71 f2]) hP hK hD hS hA ⟨hx, hb, hml, hown, hts⟩ (zf_X12_goesWell l dC dI h0 a0 (zI (zI (zI (zI b0 6 o_1.1) 7 o_1.2.1) 8 s_9.1) 9 s_9.2) c0 o_22 hqo_22 H.size) (cwV 0 hts gX12_name_X12_goesWell rfl rfl rfl zhd_X12_goesWell ⟨Nat.le_of_ble_eq_true rfl, Nat.le_of_ble_eq_true rfl⟩) [0] rfl (of_decide_eq_true rfl) [] rfl rfl rfl rfl hl.1 rfl (Nat.le_of_ble_eq_true rfl) dX12_name_88 ⟨Nat.le_of_ble_eq_true rfl, Nat.le_of_ble_eq_true rfl⟩ [some 0] (of_decide_eq_true rfl) (of_decide_eq_true rfl) rfl rfl rfl (fun H locs hw_25n hP hD hS => ?_)
          refine lv_if_eq (tgt := 98) hx hb dX12_name_91 (of_decide_eq_true rfl) (fun c_26 => ?_) (fun c_26 => ?_)
          · have hfn := (if_pos c_26).symm.trans hfn
            refine lv_iconst (v := 0) hx hb dX12_name_98 zci_0 ?_
            have ho := Option.some.inj hfn
            subst ho
            exact zri hx hb hr hK hP hD hS hQ rfl hlocks dX12_name_99
          have hfn := (if_neg c_26).symm.trans hfn
          refine lv_iload_n hx hb dX12_name_94 rfl (lv_at hl 1 rfl) ?_
          refine lv_goto (tgt := 99) hx hb dX12_name_95 (of_decide_eq_true rfl) ?_
          have ho := Option.some.inj hfn
          subst ho
          exact zri hx hb hr hK hP hD hS hQ rfl hlocks dX12_name_99
        have hfn := (if_neg c_21).symm.trans hfn
        refine lv_bipush (v := 32) hx hb dX12_name_66 zcb_32 ?_
        refine lv_iload_n hx hb dX12_name_68 rfl (lv_at hl 1 rfl) ?_
        refine lv_imul hx hb dX12_name_69 ?_
        refine lv_aload_n hx hb dX12_name_70 rfl (lv_at hl 2 rfl) ?_
        refine va_get (D := (dC, dI)) (ci := 12) (v := .ref (a0 0)) (C := RX12) (T := TX12) (N := 67) hx hb hts zn_X12_name_X12 hown hK hP 0 rfl rfl 0 (of_decide_eq_true rfl) (hts (.fieldLink RX12 7 "ShortEnoughModel" "tape" "[I") zw_X12_name_903) (fun _ h9 => h9) rfl dX12_name_71 ?_
        refine lv_iload_n hx hb dX12_name_74 rfl (lv_at hl 0 rfl) ?_
        obtain ⟨h_27, hfn⟩ := zg_s hfn
        refine va_iald hx hb hK hP 1 0 rfl rfl h_27 dX12_name_75 ?_
        refine lv_iadd hx hb dX12_name_76 ?_
        refine lv_bipush (v := 96) hx hb dX12_name_77 zcb_96 ?_
        refine lv_isub hx hb dX12_name_79 ?_
        refine lv_istore_n (lv' := [(1, .int (((32 * s_10.1) + (f1 s_10.2.toNatClampNeg)) - 96)), (2, .int s_10.2), (0, .ref h0)]) hx hb dX12_name_80 rfl hl (of_decide_eq_true rfl) rfl (fun ls hl => ?_)
        refine lv_iinc (v := (s_10.2 + (-1))) (lv' := [(2, .int (s_10.2 + (-1))), (1, .int (((32 * s_10.1) + (f1 s_10.2.toNatClampNeg)) - 96)), (0, .ref h0)]) hx hb dX12_name_81 hl (k := 1) rfl rfl (of_decide_eq_true rfl) rfl (fun ls hl => ?_)
        refine lv_goto (tgt := 51) hx hb dX12_name_84 (of_decide_eq_true rfl) ?_
        exact ih_10 ((((32 * s_10.1) + (f1 s_10.2.toNatClampNeg)) - 96), (s_10.2 + (-1))) H locs ls hfn hP hD hS (lv_sub hl [0, 1, 2] rfl)
    exact lp_10 _ (0, (o_1.1 - 1)) H locs ls hfn hP hD hS (lv_sub hl [0, 1, 2] rfl)
  refine lv_if_eq (tgt := 42) hx hb dX12_name_8 (of_decide_eq_true rfl) (fun c_28 => ?_) (fun c_28 => ?_)
  · have hfn := (if_pos c_28).symm.trans hfn
    exact jp_9 (o_1.2.2.1, o_1.2.2.2) H locs ls hfn hP hD hS (lv_sub hl [0] rfl)
  have hfn := (if_neg c_28).symm.trans hfn
  refine lv_aload_n hx hb dX12_name_11 rfl (lv_at hl 0 rfl) ?_
  obtain ⟨o_29, hqo_29, hfn⟩ := zb_s hfn
  refine zcVi (ci := 12) (rest := []) (pc' := 15) (ws' := [(h0, .inr (12, zO a0 (zI (zI (zI (zI b0 6 o_1.1) 7 o_1.2.1) 8 o_1.2.2.1) 9 o_1.2.2.2) c0)), zVi (a0 0) k1 1200 f1, zVi (a0 10) k2 71 f2]) hP hK hD hS hA ⟨hx, hb, hml, hown, hts⟩ (zf_X12_own l dC dI h0 a0 (zI (zI (zI (zI b0 6 o_1.1) 7 o_1.2.1) 8 o_1.2.2.1) 9 o_1.2.2.2) c0 k2 f2 k1 f1 o_29 hqo_29 H.size) (cwV 0 hts gX12_name_X12_own rfl rfl rfl zhd_X12_own ⟨Nat.le_of_ble_eq_true rfl, Nat.le_of_ble_eq_true rfl⟩) [0, 2, 1] rfl (of_decide_eq_true rfl) [1, 0] rfl rfl rfl rfl hl.1 rfl (Nat.le_of_ble_eq_true rfl) dX12_name_12 ⟨Nat.le_of_ble_eq_true rfl, Nat.le_of_ble_eq_true rfl⟩ [some 0, some 2, some 1] (of_decide_eq_true rfl) (of_decide_eq_true rfl) rfl rfl rfl (fun H locs hP hD hS => ?_)
  refine lv_iconst (v := (-1)) hx hb dX12_name_15 zci_m1 ?_
  obtain ⟨j_33, ej_33, hfn⟩ := zj_g hfn
  have jp_33 : ∀ (s_33 : Unit) (H : Heap) (locs : List Loc) (ls : Array Slot), j_33 s_33 = some o → va_P (dC, dI) vwCl [(h0, .inr (12, zO a0 (zI (zI (zI (zI b0 6 o_1.1) 7 o_1.2.1) 8 o_1.2.2.1) 9 o_1.2.2.2) c0)), zVi (a0 0) k1 1200 f1, zVi (a0 10) k2 71 f2] H → va_D A [(h0, .inr (12, zO a0 (zI (zI (zI (zI b0 6 o_1.1) 7 o_1.2.1) 8 o_1.2.2.1) 9 o_1.2.2.2) c0)), zVi (a0 0) k1 1200 f1, zVi (a0 10) k2 71 f2] → va_S A s.heap H locs → lv_has ls 3 [(0, .ref h0)] → W p l e (headSpec wsX12_name ({ frames := 3, cells := 0, slots := 0, locals := 62 })).room s m ([.ref h0] : List Value).toArray below meth c H locs 0 0 Q (F0 m 33 ls []) := by
    intro s_33 H locs ls hfn hP hD hS hl
    have hfn := zj_s ej_33 hfn
    refine lv_aload_n hx hb dX12_name_33 rfl (lv_at hl 0 rfl) ?_
    refine lv_iconst (v := 1) hx hb dX12_name_34 zci_1 ?_
    refine lv_aload_n hx hb dX12_name_35 rfl (lv_at hl 0 rfl) ?_
    refine va_get (D := (dC, dI)) (ci := 12) (v := .int o_1.2.1) (C := RX12) (T := TX12) (N := 67) hx hb hts zn_X12_name_X12 hown hK hP 0 rfl rfl 7 (of_decide_eq_true rfl) (hts (.fieldLink RX12 32 "ShortEnoughModel" "begun" "I") zw_X12_name_902) (fun _ h9 => h9) rfl dX12_name_36 ?_
    obtain ⟨o_34, hqo_34, hfn⟩ := zb_s hfn
    refine zcVv (ci := 12) (rest := []) (pc' := 42) (ws' := [(h0, .inr (12, zO a0 (zI (zI (zI (zI b0 6 o_1.1) 7 o_1.2.1) 8 o_34.1) 9 o_34.2) c0)), zVi (a0 0) k1 1200 f1, zVi (a0 10) k2 71 f2]) hP hK hD hS hA ⟨hx, hb, hml, hown, hts⟩ (zf_X12_faults l dC dI h0 1 o_1.2.1 a0 (zI (zI (zI (zI b0 6 o_1.1) 7 o_1.2.1) 8 o_1.2.2.1) 9 o_1.2.2.2) c0 o_34 hqo_34 H.size) (cwV 2 hts gX12_name_X12_faults rfl rfl rfl zhd_X12_faults ⟨Nat.le_of_ble_eq_true rfl, Nat.le_of_ble_eq_true rfl⟩) [0] rfl (of_decide_eq_true rfl) [] rfl rfl rfl rfl hl.1 rfl (Nat.le_of_ble_eq_true rfl) dX12_name_39 ⟨Nat.le_of_ble_eq_true rfl, Nat.le_of_ble_eq_true rfl⟩ [some 0] (of_decide_eq_true rfl) (of_decide_eq_true rfl) rfl rfl rfl (fun H locs hP hD hS => ?_)
    exact jp_9 (o_34.1, o_34.2) H locs ls hfn hP hD hS (lv_sub hl [0] rfl)
  refine lv_icmp_ne (tgt := 33) hx hb dX12_name_16 (of_decide_eq_true rfl) (fun c_38 => ?_) (fun c_38 => ?_)
  · have hfn := (if_neg c_38).symm.trans hfn
    exact jp_33 () H locs ls hfn hP hD hS (lv_sub hl [0] rfl)
  have hfn := (if_pos c_38).symm.trans hfn
  refine lv_aload_n hx hb dX12_name_19 rfl (lv_at hl 0 rfl) ?_
  refine va_get (D := (dC, dI)) (ci := 12) (v := .int o_1.1) (C := RX12) (T := TX12) (N := 67) hx hb hts zn_X12_name_X12 hown hK hP 0 rfl rfl 6 (of_decide_eq_true rfl) (hts (.fieldLink RX12 29 "ShortEnoughModel" "at" "I") zw_X12_name_901) (fun _ h9 => h9) rfl dX12_name_20 ?_
  refine lv_aload_n hx hb dX12_name_23 rfl (lv_at hl 0 rfl) ?_
  refine va_get (D := (dC, dI)) (ci := 12) (v := .int o_1.2.1) (C := RX12) (T := TX12) (N := 67) hx hb hts zn_X12_name_X12 hown hK hP 0 rfl rfl 7 (of_decide_eq_true rfl) (hts (.fieldLink RX12 32 "ShortEnoughModel" "begun" "I") zw_X12_name_902) (fun _ h9 => h9) rfl dX12_name_24 ?_
  refine lv_isub hx hb dX12_name_27 ?_
  refine lv_bipush (v := 6) hx hb dX12_name_28 zcb_6 ?_
  refine lv_icmp_le (tgt := 42) hx hb dX12_name_30 (of_decide_eq_true rfl) (fun c_39 => ?_) (fun c_39 => ?_)
  · have hfn := (if_pos c_39).symm.trans hfn
    exact jp_9 (o_1.2.2.1, o_1.2.2.2) H locs ls hfn hP hD hS (lv_sub hl [0] rfl)
  have hfn := (if_neg c_39).symm.trans hfn
  exact jp_33 () H locs ls hfn hP hD hS (lv_sub hl [0] rfl)
theorem zn_X12_digits_X12 : ∀ w ∈ wsX120, w ∈ wsX12_digits := fun _ h => List.mem_cons_of_mem _ (List.mem_append_right _ h)
theorem zw_X12_digits_905 : Cond.fieldLink RX12 29 "ShortEnoughModel" "at" "I" ∈ wsX12_digits := List.mem_of_getElem? (i := 1) (by decide +kernel)
theorem zw_X12_digits_906 : Cond.fieldLink RX12 32 "ShortEnoughModel" "begun" "I" ∈ wsX12_digits := List.mem_of_getElem? (i := 2) (by decide +kernel)
theorem zw_X12_digits_907 : Cond.constantLong RX12 255 (10) ∈ wsX12_digits := List.mem_of_getElem? (i := 3) (by decide +kernel)
theorem zw_X12_digits_908 : Cond.constantLong RX12 257 (48) ∈ wsX12_digits := List.mem_of_getElem? (i := 4) (by decide +kernel)
set_option maxHeartbeats 4000000 in
set_option maxRecDepth 100000 in
theorem zf_X12_digits (l : Launch) (dC : Nat → ClassId) (dI : Nat → Nat → Nat) (h0 : Nat) (a0 : Nat → Nat) (b0 : Nat → Int32) (c0 : Nat → Int64) (k1 : Nat) (f1 : Nat → Int32) (o : Int64 × Int32 × Int32 × Int32 × Int32) (hfn : fn_X12_digits (b0 5) (b0 6) (b0 7) (b0 8) (b0 9) f1 = some o) (sz : Nat) : zMl l yX12_digits wsX12_digits ({ frames := 2, cells := 0, slots := 0, locals := 42 }) (dC, dI) vwCl [.ref h0] [(h0, .inr (12, zO a0 b0 c0)), zVi (a0 0) k1 1200 f1] [(k1, .int)] (fun r _ => r = o.1) [(h0, .inr (12, zO a0 (zI (zI (zI (zI b0 6 o.2.1) 7 o.2.2.1) 8 o.2.2.2.1) 9 o.2.2.2.2) c0)), zVi (a0 0) k1 1200 f1] [(k1, .int)] sz := by
  refine zgol (cc := cX12_digits) (maxL := 3) (ret := (some .long)) (C0 := RX12) (lv0 := [(0, .ref h0)]) zpl_X12 rfl rfl rfl (Nat.le_of_ble_eq_true rfl) ?_
  intro p e s m below meth c A ls Q hx hb hr hts hown hlocks hml hP hK hD hA hS hl hQ
  unfold fn_X12_digits at hfn
  refine lv_aload_n hx hb dX12_digits_0 rfl (lv_at hl 0 rfl) ?_
  obtain ⟨o_1, hqo_1, hfn⟩ := zb_s hfn
  refine zcVb (ci := 12) (rest := []) (pc' := 4) (ws' := [(h0, .inr (12, zO a0 b0 c0)), zVi (a0 0) k1 1200 f1]) hP hK hD hS hA ⟨hx, hb, hml, hown, hts⟩ (zf_X12_goesWell l dC dI h0 a0 b0 c0 o_1 hqo_1 s.heap.size) (cwV 0 hts gX12_digits_X12_goesWell rfl rfl rfl zhd_X12_goesWell ⟨Nat.le_of_ble_eq_true rfl, Nat.le_of_ble_eq_true rfl⟩) [0] rfl (of_decide_eq_true rfl) [] rfl rfl rfl rfl hl.1 rfl (Nat.le_of_ble_eq_true rfl) dX12_digits_1 ⟨Nat.le_of_ble_eq_true rfl, Nat.le_of_ble_eq_true rfl⟩ [some 0] (of_decide_eq_true rfl) (of_decide_eq_true rfl) rfl rfl rfl (fun H locs hw_4n hP hD hS => ?_)
  refine lv_if_ne (tgt := 9) hx hb dX12_digits_4 (of_decide_eq_true rfl) (fun c_5 => ?_) (fun c_5 => ?_)
  · have hfn := (if_neg c_5).symm.trans hfn
    refine lv_aload_n hx hb dX12_digits_9 rfl (lv_at hl 0 rfl) ?_
    obtain ⟨o_6, hqo_6, hfn⟩ := zb_s hfn
    refine zcVi (ci := 12) (rest := []) (pc' := 13) (ws' := [(h0, .inr (12, zO a0 (zI b0 6 o_6.2) c0)), zVi (a0 0) k1 1200 f1]) hP hK hD hS hA ⟨hx, hb, hml, hown, hts⟩ (zf_X12_here l dC dI h0 a0 b0 c0 k1 f1 o_6 hqo_6 H.size) (cwV 0 hts gX12_digits_X12_here rfl rfl rfl zhd_X12_here ⟨Nat.le_of_ble_eq_true rfl, Nat.le_of_ble_eq_true rfl⟩) [0, 1] rfl (of_decide_eq_true rfl) [0] rfl rfl rfl rfl hl.1 rfl (Nat.le_of_ble_eq_true rfl) dX12_digits_10 ⟨Nat.le_of_ble_eq_true rfl, Nat.le_of_ble_eq_true rfl⟩ [some 0, some 1] (of_decide_eq_true rfl) (of_decide_eq_true rfl) rfl rfl rfl (fun H locs hP hD hS => ?_)
    refine lv_pop hx hb dX12_digits_13 rfl ?_
    refine lv_aload_n hx hb dX12_digits_14 rfl (lv_at hl 0 rfl) ?_
    refine lv_aload_n hx hb dX12_digits_15 rfl (lv_at hl 0 rfl) ?_
    refine va_get (D := (dC, dI)) (ci := 12) (v := .int o_6.2) (C := RX12) (T := TX12) (N := 67) hx hb hts zn_X12_digits_X12 hown hK hP 0 rfl rfl 6 (of_decide_eq_true rfl) (hts (.fieldLink RX12 29 "ShortEnoughModel" "at" "I") zw_X12_digits_905) (fun _ h9 => h9) rfl dX12_digits_16 ?_
    refine va_put (D := (dC, dI)) (ci := 12) (v := .int o_6.2) (ty := .int) (C := RX12) (T := TX12) (N := 67) hx hb hts zn_X12_digits_X12 tyX12 tyX12_ok nmX12 hown hK hP hD hS 0 rfl rfl 7 (of_decide_eq_true rfl) (hts (.fieldLink RX12 32 "ShortEnoughModel" "begun" "I") zw_X12_digits_906) (fun _ h9 => h9) rfl (tyX12_ok 7 (of_decide_eq_true rfl)) rfl rfl (Nat.le_of_ble_eq_true rfl) dX12_digits_19 (fun H locs hP hD hS => ?_)
    have hP : va_P (dC, dI) vwCl [(h0, .inr (12, zO a0 (zI (zI b0 6 o_6.2) 7 o_6.2) c0)), zVi (a0 0) k1 1200 f1] H := hP
    have hD := zDW hD hP rfl
    refine lv_aload_n hx hb dX12_digits_22 rfl (lv_at hl 0 rfl) ?_
    refine lv_aload_n hx hb dX12_digits_23 rfl (lv_at hl 0 rfl) ?_
    refine va_get (D := (dC, dI)) (ci := 12) (v := .int o_6.2) (C := RX12) (T := TX12) (N := 67) hx hb hts zn_X12_digits_X12 hown hK hP 0 rfl rfl 6 (of_decide_eq_true rfl) (hts (.fieldLink RX12 29 "ShortEnoughModel" "at" "I") zw_X12_digits_905) (fun _ h9 => h9) rfl dX12_digits_24 ?_
    obtain ⟨o_10, hqo_10, hfn⟩ := zb_s hfn
    refine zcVb (ci := 12) (rest := []) (pc' := 30) (ws' := [(h0, .inr (12, zO a0 (zI (zI b0 6 o_6.2) 7 o_6.2) c0)), zVi (a0 0) k1 1200 f1]) hP hK hD hS hA ⟨hx, hb, hml, hown, hts⟩ (zf_X12_isDigit l dC dI h0 o_6.2 a0 (zI (zI b0 6 o_6.2) 7 o_6.2) c0 k1 f1 o_10 hqo_10 H.size) (cwV 1 hts gX12_digits_X12_isDigit rfl rfl rfl zhd_X12_isDigit ⟨Nat.le_of_ble_eq_true rfl, Nat.le_of_ble_eq_true rfl⟩) [0, 1] rfl (of_decide_eq_true rfl) [0] rfl rfl rfl rfl hl.1 rfl (Nat.le_of_ble_eq_true rfl) dX12_digits_27 ⟨Nat.le_of_ble_eq_true rfl, Nat.le_of_ble_eq_true rfl⟩ [some 0, some 1] (of_decide_eq_true rfl) (of_decide_eq_true rfl) rfl rfl rfl (fun H locs hw_13n hP hD hS => ?_)
    refine lv_if_eq (tgt := 59) hx hb dX12_digits_30 (of_decide_eq_true rfl) (fun c_14 => ?_) (fun c_14 => ?_)
    · have hfn := (if_pos c_14).symm.trans hfn
      refine lv_aload_n hx hb dX12_digits_59 rfl (lv_at hl 0 rfl) ?_
      refine lv_iconst (v := 1) hx hb dX12_digits_60 zci_1 ?_
      refine lv_aload_n hx hb dX12_digits_61 rfl (lv_at hl 0 rfl) ?_
      refine va_get (D := (dC, dI)) (ci := 12) (v := .int o_6.2) (C := RX12) (T := TX12) (N := 67) hx hb hts zn_X12_digits_X12 hown hK hP 0 rfl rfl 6 (of_decide_eq_true rfl) (hts (.fieldLink RX12 29 "ShortEnoughModel" "at" "I") zw_X12_digits_905) (fun _ h9 => h9) rfl dX12_digits_62 ?_
      obtain ⟨o_15, hqo_15, hfn⟩ := zb_s hfn
      refine zcVv (ci := 12) (rest := []) (pc' := 68) (ws' := [(h0, .inr (12, zO a0 (zI (zI (zI (zI b0 6 o_6.2) 7 o_6.2) 8 o_15.1) 9 o_15.2) c0)), zVi (a0 0) k1 1200 f1]) hP hK hD hS hA ⟨hx, hb, hml, hown, hts⟩ (zf_X12_faults l dC dI h0 1 o_6.2 a0 (zI (zI b0 6 o_6.2) 7 o_6.2) c0 o_15 hqo_15 H.size) (cwV 2 hts gX12_digits_X12_faults rfl rfl rfl zhd_X12_faults ⟨Nat.le_of_ble_eq_true rfl, Nat.le_of_ble_eq_true rfl⟩) [0] rfl (of_decide_eq_true rfl) [] rfl rfl rfl rfl hl.1 rfl (Nat.le_of_ble_eq_true rfl) dX12_digits_65 ⟨Nat.le_of_ble_eq_true rfl, Nat.le_of_ble_eq_true rfl⟩ [some 0] (of_decide_eq_true rfl) (of_decide_eq_true rfl) rfl rfl rfl (fun H locs hP hD hS => ?_)
      refine lv_lconst (v := 0) hx hb dX12_digits_68 (by decide +kernel) ?_
      have ho := Option.some.inj hfn
      subst ho
      exact zrl hx hb hr hK hP hD hS hQ rfl hlocks dX12_digits_69
    have hfn := (if_neg c_14).symm.trans hfn
    refine lv_aload_n hx hb dX12_digits_33 rfl (lv_at hl 0 rfl) ?_
    refine lv_aload_n hx hb dX12_digits_34 rfl (lv_at hl 0 rfl) ?_
    refine va_get (D := (dC, dI)) (ci := 12) (v := .int o_6.2) (C := RX12) (T := TX12) (N := 67) hx hb hts zn_X12_digits_X12 hown hK hP 0 rfl rfl 6 (of_decide_eq_true rfl) (hts (.fieldLink RX12 29 "ShortEnoughModel" "at" "I") zw_X12_digits_905) (fun _ h9 => h9) rfl dX12_digits_35 ?_
    refine lv_iconst (v := 1) hx hb dX12_digits_38 zci_1 ?_
    refine lv_isub hx hb dX12_digits_39 ?_
    obtain ⟨o_19, hqo_19, hfn⟩ := zb_s hfn
    refine zcVb (ci := 12) (rest := []) (pc' := 43) (ws' := [(h0, .inr (12, zO a0 (zI (zI b0 6 o_6.2) 7 o_6.2) c0)), zVi (a0 0) k1 1200 f1]) hP hK hD hS hA ⟨hx, hb, hml, hown, hts⟩ (zf_X12_isSmall l dC dI h0 (o_6.2 - 1) a0 (zI (zI b0 6 o_6.2) 7 o_6.2) c0 k1 f1 o_19 hqo_19 H.size) (cwV 1 hts gX12_digits_X12_isSmall rfl rfl rfl zhd_X12_isSmall ⟨Nat.le_of_ble_eq_true rfl, Nat.le_of_ble_eq_true rfl⟩) [0, 1] rfl (of_decide_eq_true rfl) [0] rfl rfl rfl rfl hl.1 rfl (Nat.le_of_ble_eq_true rfl) dX12_digits_40 ⟨Nat.le_of_ble_eq_true rfl, Nat.le_of_ble_eq_true rfl⟩ [some 0, some 1] (of_decide_eq_true rfl) (of_decide_eq_true rfl) rfl rfl rfl (fun H locs hw_22n hP hD hS => ?_)
    refine lv_if_ne (tgt := 59) hx hb dX12_digits_43 (of_decide_eq_true rfl) (fun c_23 => ?_) (fun c_23 => ?_)
    · have hfn := (if_neg c_23).symm.trans hfn
      refine lv_aload_n hx hb dX12_digits_59 rfl (lv_at hl 0 rfl) ?_
      refine lv_iconst (v := 1) hx hb dX12_digits_60 zci_1 ?_
      refine lv_aload_n hx hb dX12_digits_61 rfl (lv_at hl 0 rfl) ?_
      refine va_get (D := (dC, dI)) (ci := 12) (v := .int o_6.2) (C := RX12) (T := TX12) (N := 67) hx hb hts zn_X12_digits_X12 hown hK hP 0 rfl rfl 6 (of_decide_eq_true rfl) (hts (.fieldLink RX12 29 "ShortEnoughModel" "at" "I") zw_X12_digits_905) (fun _ h9 => h9) rfl dX12_digits_62 ?_
      obtain ⟨o_24, hqo_24, hfn⟩ := zb_s hfn
      refine zcVv (ci := 12) (rest := []) (pc' := 68) (ws' := [(h0, .inr (12, zO a0 (zI (zI (zI (zI b0 6 o_6.2) 7 o_6.2) 8 o_24.1) 9 o_24.2) c0)), zVi (a0 0) k1 1200 f1]) hP hK hD hS hA ⟨hx, hb, hml, hown, hts⟩ (zf_X12_faults l dC dI h0 1 o_6.2 a0 (zI (zI b0 6 o_6.2) 7 o_6.2) c0 o_24 hqo_24 H.size) (cwV 2 hts gX12_digits_X12_faults rfl rfl rfl zhd_X12_faults ⟨Nat.le_of_ble_eq_true rfl, Nat.le_of_ble_eq_true rfl⟩) [0] rfl (of_decide_eq_true rfl) [] rfl rfl rfl rfl hl.1 rfl (Nat.le_of_ble_eq_true rfl) dX12_digits_65 ⟨Nat.le_of_ble_eq_true rfl, Nat.le_of_ble_eq_true rfl⟩ [some 0] (of_decide_eq_true rfl) (of_decide_eq_true rfl) rfl rfl rfl (fun H locs hP hD hS => ?_)
      refine lv_lconst (v := 0) hx hb dX12_digits_68 (by decide +kernel) ?_
      have ho := Option.some.inj hfn
      subst ho
      exact zrl hx hb hr hK hP hD hS hQ rfl hlocks dX12_digits_69
    have hfn := (if_pos c_23).symm.trans hfn
    refine lv_aload_n hx hb dX12_digits_46 rfl (lv_at hl 0 rfl) ?_
    refine lv_aload_n hx hb dX12_digits_47 rfl (lv_at hl 0 rfl) ?_
    refine va_get (D := (dC, dI)) (ci := 12) (v := .int o_6.2) (C := RX12) (T := TX12) (N := 67) hx hb hts zn_X12_digits_X12 hown hK hP 0 rfl rfl 6 (of_decide_eq_true rfl) (hts (.fieldLink RX12 29 "ShortEnoughModel" "at" "I") zw_X12_digits_905) (fun _ h9 => h9) rfl dX12_digits_48 ?_
    refine lv_iconst (v := 1) hx hb dX12_digits_51 zci_1 ?_
    refine lv_isub hx hb dX12_digits_52 ?_
    obtain ⟨o_28, hqo_28, hfn⟩ := zb_s hfn
    refine zcVb (ci := 12) (rest := []) (pc' := 56) (ws' := [(h0, .inr (12, zO a0 (zI (zI b0 6 o_6.2) 7 o_6.2) c0)), zVi (a0 0) k1 1200 f1]) hP hK hD hS hA ⟨hx, hb, hml, hown, hts⟩ (zf_X12_isDigit l dC dI h0 (o_6.2 - 1) a0 (zI (zI b0 6 o_6.2) 7 o_6.2) c0 k1 f1 o_28 hqo_28 H.size) (cwV 1 hts gX12_digits_X12_isDigit rfl rfl rfl zhd_X12_isDigit ⟨Nat.le_of_ble_eq_true rfl, Nat.le_of_ble_eq_true rfl⟩) [0, 1] rfl (of_decide_eq_true rfl) [0] rfl rfl rfl rfl hl.1 rfl (Nat.le_of_ble_eq_true rfl) dX12_digits_53 ⟨Nat.le_of_ble_eq_true rfl, Nat.le_of_ble_eq_true rfl⟩ [some 0, some 1] (of_decide_eq_true rfl) (of_decide_eq_true rfl) rfl rfl rfl (fun H locs hw_31n hP hD hS => ?_)
    refine lv_if_eq (tgt := 70) hx hb dX12_digits_56 (of_decide_eq_true rfl) (fun c_32 => ?_) (fun c_32 => ?_)
    · have hfn := (if_pos c_32).symm.trans hfn
      refine lv_lconst (v := 0) hx hb dX12_digits_70 (by decide +kernel) ?_
      refine lv_lstore_n (lv' := [(1, .long 0), (0, .ref h0)]) hx hb dX12_digits_71 rfl hl (of_decide_eq_true rfl) rfl (fun ls hl => ?_)
      obtain ⟨bd_33, ebd_33, hfn⟩ := zl_g hfn
      have lp_33 : ∀ (n : Nat) (s_33 : Int64 × Int32) (H : Heap) (locs : List Loc) (ls : Array Slot), zl bd_33 n s_33 = some o → va_P (dC, dI) vwCl [(h0, .inr (12, zO a0 (zI (zI b0 6 s_33.2) 7 o_6.2) c0)), zVi (a0 0) k1 1200 f1] H → va_D A [(h0, .inr (12, zO a0 (zI (zI b0 6 s_33.2) 7 o_6.2) c0)), zVi (a0 0) k1 1200 f1] → va_S A s.heap H locs → lv_has ls 3 [(1, .long s_33.1), (0, .ref h0)] → W p l e (headSpec wsX12_digits ({ frames := 2, cells := 0, slots := 0, locals := 42 })).room s m ([.ref h0] : List Value).toArray below meth c H locs 0 0 Q (F0 m 72 ls []) := by
        intro n
        induction n with
        | zero => exact fun _ _ _ _ hfn => (zl_0 hfn).elim
        | succ n ih_33 =>
          intro s_33 H locs ls hfn hP hD hS hl
          have hfn := zl_s ebd_33 hfn
          refine lv_aload_n hx hb dX12_digits_72 rfl (lv_at hl 1 rfl) ?_
          refine lv_aload_n hx hb dX12_digits_73 rfl (lv_at hl 1 rfl) ?_
          refine va_get (D := (dC, dI)) (ci := 12) (v := .int s_33.2) (C := RX12) (T := TX12) (N := 67) hx hb hts zn_X12_digits_X12 hown hK hP 0 rfl rfl 6 (of_decide_eq_true rfl) (hts (.fieldLink RX12 29 "ShortEnoughModel" "at" "I") zw_X12_digits_905) (fun _ h9 => h9) rfl dX12_digits_74 ?_
          obtain ⟨o_34, hqo_34, hfn⟩ := zb_s hfn
          refine zcVb (ci := 12) (rest := []) (pc' := 80) (ws' := [(h0, .inr (12, zO a0 (zI (zI b0 6 s_33.2) 7 o_6.2) c0)), zVi (a0 0) k1 1200 f1]) hP hK hD hS hA ⟨hx, hb, hml, hown, hts⟩ (zf_X12_isDigit l dC dI h0 s_33.2 a0 (zI (zI b0 6 s_33.2) 7 o_6.2) c0 k1 f1 o_34 hqo_34 H.size) (cwV 1 hts gX12_digits_X12_isDigit rfl rfl rfl zhd_X12_isDigit ⟨Nat.le_of_ble_eq_true rfl, Nat.le_of_ble_eq_true rfl⟩) [0, 1] rfl (of_decide_eq_true rfl) [0] rfl rfl rfl rfl hl.1 rfl (Nat.le_of_ble_eq_true rfl) dX12_digits_77 ⟨Nat.le_of_ble_eq_true rfl, Nat.le_of_ble_eq_true rfl⟩ [some 0, some 1] (of_decide_eq_true rfl) (of_decide_eq_true rfl) rfl rfl rfl (fun H locs hw_37n hP hD hS => ?_)
          refine lv_if_eq (tgt := 134) hx hb dX12_digits_80 (of_decide_eq_true rfl) (fun c_38 => ?_) (fun c_38 => ?_)
          · have hfn := (if_pos c_38).symm.trans hfn
            refine lv_aload_n hx hb dX12_digits_134 rfl (lv_at hl 1 rfl) ?_
            refine va_get (D := (dC, dI)) (ci := 12) (v := .int s_33.2) (C := RX12) (T := TX12) (N := 67) hx hb hts zn_X12_digits_X12 hown hK hP 0 rfl rfl 6 (of_decide_eq_true rfl) (hts (.fieldLink RX12 29 "ShortEnoughModel" "at" "I") zw_X12_digits_905) (fun _ h9 => h9) rfl dX12_digits_135 ?_
            refine lv_aload_n hx hb dX12_digits_138 rfl (lv_at hl 1 rfl) ?_
            refine va_get (D := (dC, dI)) (ci := 12) (v := .int o_6.2) (C := RX12) (T := TX12) (N := 67) hx hb hts zn_X12_digits_X12 hown hK hP 0 rfl rfl 7 (of_decide_eq_true rfl) (hts (.fieldLink RX12 32 "ShortEnoughModel" "begun" "I") zw_X12_digits_906) (fun _ h9 => h9) rfl dX12_digits_139 ?_
            refine lv_isub hx hb dX12_digits_142 ?_
            refine lv_bipush (v := 8) hx hb dX12_digits_143 zcb_8 ?_
            refine lv_icmp_le (tgt := 157) hx hb dX12_digits_145 (of_decide_eq_true rfl) (fun c_39 => ?_) (fun c_39 => ?_)
            · have hfn := (if_pos c_39).symm.trans hfn
              refine lv_aload_n hx hb dX12_digits_157 rfl (lv_at hl 1 rfl) ?_
              obtain ⟨o_40, hqo_40, hfn⟩ := zb_s hfn
              refine zcVb (ci := 12) (rest := []) (pc' := 161) (ws' := [(h0, .inr (12, zO a0 (zI (zI b0 6 s_33.2) 7 o_6.2) c0)), zVi (a0 0) k1 1200 f1]) hP hK hD hS hA ⟨hx, hb, hml, hown, hts⟩ (zf_X12_goesWell l dC dI h0 a0 (zI (zI b0 6 s_33.2) 7 o_6.2) c0 o_40 hqo_40 H.size) (cwV 0 hts gX12_digits_X12_goesWell rfl rfl rfl zhd_X12_goesWell ⟨Nat.le_of_ble_eq_true rfl, Nat.le_of_ble_eq_true rfl⟩) [0] rfl (of_decide_eq_true rfl) [] rfl rfl rfl rfl hl.1 rfl (Nat.le_of_ble_eq_true rfl) dX12_digits_158 ⟨Nat.le_of_ble_eq_true rfl, Nat.le_of_ble_eq_true rfl⟩ [some 0] (of_decide_eq_true rfl) (of_decide_eq_true rfl) rfl rfl rfl (fun H locs hw_43n hP hD hS => ?_)
              refine lv_if_eq (tgt := 168) hx hb dX12_digits_161 (of_decide_eq_true rfl) (fun c_44 => ?_) (fun c_44 => ?_)
              · have hfn := (if_pos c_44).symm.trans hfn
                refine lv_lconst (v := 0) hx hb dX12_digits_168 (by decide +kernel) ?_
                have ho := Option.some.inj hfn
                subst ho
                exact zrl hx hb hr hK hP hD hS hQ rfl hlocks dX12_digits_169
              have hfn := (if_neg c_44).symm.trans hfn
              refine lv_lload_n hx hb dX12_digits_164 rfl (lv_at hl 0 rfl) ?_
              refine lv_goto (tgt := 169) hx hb dX12_digits_165 (of_decide_eq_true rfl) ?_
              have ho := Option.some.inj hfn
              subst ho
              exact zrl hx hb hr hK hP hD hS hQ rfl hlocks dX12_digits_169
            have hfn := (if_neg c_39).symm.trans hfn
            refine lv_aload_n hx hb dX12_digits_148 rfl (lv_at hl 1 rfl) ?_
            refine lv_iconst (v := 1) hx hb dX12_digits_149 zci_1 ?_
            refine lv_aload_n hx hb dX12_digits_150 rfl (lv_at hl 1 rfl) ?_
            refine va_get (D := (dC, dI)) (ci := 12) (v := .int o_6.2) (C := RX12) (T := TX12) (N := 67) hx hb hts zn_X12_digits_X12 hown hK hP 0 rfl rfl 7 (of_decide_eq_true rfl) (hts (.fieldLink RX12 32 "ShortEnoughModel" "begun" "I") zw_X12_digits_906) (fun _ h9 => h9) rfl dX12_digits_151 ?_
            obtain ⟨o_45, hqo_45, hfn⟩ := zb_s hfn
            refine zcVv (ci := 12) (rest := []) (pc' := 157) (ws' := [(h0, .inr (12, zO a0 (zI (zI (zI (zI b0 6 s_33.2) 7 o_6.2) 8 o_45.1) 9 o_45.2) c0)), zVi (a0 0) k1 1200 f1]) hP hK hD hS hA ⟨hx, hb, hml, hown, hts⟩ (zf_X12_faults l dC dI h0 1 o_6.2 a0 (zI (zI b0 6 s_33.2) 7 o_6.2) c0 o_45 hqo_45 H.size) (cwV 2 hts gX12_digits_X12_faults rfl rfl rfl zhd_X12_faults ⟨Nat.le_of_ble_eq_true rfl, Nat.le_of_ble_eq_true rfl⟩) [0] rfl (of_decide_eq_true rfl) [] rfl rfl rfl rfl hl.1 rfl (Nat.le_of_ble_eq_true rfl) dX12_digits_154 ⟨Nat.le_of_ble_eq_true rfl, Nat.le_of_ble_eq_true rfl⟩ [some 0] (of_decide_eq_true rfl) (of_decide_eq_true rfl) rfl rfl rfl (fun H locs hP hD hS => ?_)
            refine lv_aload_n hx hb dX12_digits_157 rfl (lv_at hl 1 rfl) ?_
            obtain ⟨o_49, hqo_49, hfn⟩ := zb_s hfn
            refine zcVb (ci := 12) (rest := []) (pc' := 161) (ws' := [(h0, .inr (12, zO a0 (zI (zI (zI (zI b0 6 s_33.2) 7 o_6.2) 8 o_45.1) 9 o_45.2) c0)), zVi (a0 0) k1 1200 f1]) hP hK hD hS hA ⟨hx, hb, hml, hown, hts⟩ (zf_X12_goesWell l dC dI h0 a0 (zI (zI (zI (zI b0 6 s_33.2) 7 o_6.2) 8 o_45.1) 9 o_45.2) c0 o_49 hqo_49 H.size) (cwV 0 hts gX12_digits_X12_goesWell rfl rfl rfl zhd_X12_goesWell ⟨Nat.le_of_ble_eq_true rfl, Nat.le_of_ble_eq_true rfl⟩) [0] rfl (of_decide_eq_true rfl) [] rfl rfl rfl rfl hl.1 rfl (Nat.le_of_ble_eq_true rfl) dX12_digits_158 ⟨Nat.le_of_ble_eq_true rfl, Nat.le_of_ble_eq_true rfl⟩ [some 0] (of_decide_eq_true rfl) (of_decide_eq_true rfl) rfl rfl rfl (fun H locs hw_52n hP hD hS => ?_)
            refine lv_if_eq (tgt := 168) hx hb dX12_digits_161 (of_decide_eq_true rfl) (fun c_53 => ?_) (fun c_53 => ?_)
            · have hfn := (if_pos c_53).symm.trans hfn
              refine lv_lconst (v := 0) hx hb dX12_digits_168 (by decide +kernel) ?_
              have ho := Option.some.inj hfn
              subst ho
              exact zrl hx hb hr hK hP hD hS hQ rfl hlocks dX12_digits_169
            have hfn := (if_neg c_53).symm.trans hfn
            refine lv_lload_n hx hb dX12_digits_164 rfl (lv_at hl 0 rfl) ?_
            refine lv_goto (tgt := 169) hx hb dX12_digits_165 (of_decide_eq_true rfl) ?_
            have ho := Option.some.inj hfn
            subst ho
            exact zrl hx hb hr hK hP hD hS hQ rfl hlocks dX12_digits_169
          have hfn := (if_neg c_38).symm.trans hfn
          refine lv_aload_n hx hb dX12_digits_83 rfl (lv_at hl 1 rfl) ?_
          refine va_get (D := (dC, dI)) (ci := 12) (v := .int s_33.2) (C := RX12) (T := TX12) (N := 67) hx hb hts zn_X12_digits_X12 hown hK hP 0 rfl rfl 6 (of_decide_eq_true rfl) (hts (.fieldLink RX12 29 "ShortEnoughModel" "at" "I") zw_X12_digits_905) (fun _ h9 => h9) rfl dX12_digits_84 ?_
          refine lv_aload_n hx hb dX12_digits_87 rfl (lv_at hl 1 rfl) ?_
          refine va_get (D := (dC, dI)) (ci := 12) (v := .int o_6.2) (C := RX12) (T := TX12) (N := 67) hx hb hts zn_X12_digits_X12 hown hK hP 0 rfl rfl 7 (of_decide_eq_true rfl) (hts (.fieldLink RX12 32 "ShortEnoughModel" "begun" "I") zw_X12_digits_906) (fun _ h9 => h9) rfl dX12_digits_88 ?_
          refine lv_isub hx hb dX12_digits_91 ?_
          refine lv_bipush (v := 8) hx hb dX12_digits_92 zcb_8 ?_
          refine lv_icmp_ge (tgt := 119) hx hb dX12_digits_94 (of_decide_eq_true rfl) (fun c_54 => ?_) (fun c_54 => ?_)
          · have hfn := (if_pos c_54).symm.trans hfn
            refine lv_lload_n hx hb dX12_digits_119 rfl (lv_at hl 0 rfl) ?_
            refine lv_lstore_n (lv' := [(1, .long s_33.1), (0, .ref h0)]) hx hb dX12_digits_120 rfl hl (of_decide_eq_true rfl) rfl (fun ls hl => ?_)
            refine lv_aload_n hx hb dX12_digits_121 rfl (lv_at hl 1 rfl) ?_
            refine lv_dup hx hb dX12_digits_122 rfl ?_
            refine va_get (D := (dC, dI)) (ci := 12) (v := .int s_33.2) (C := RX12) (T := TX12) (N := 67) hx hb hts zn_X12_digits_X12 hown hK hP 0 rfl rfl 6 (of_decide_eq_true rfl) (hts (.fieldLink RX12 29 "ShortEnoughModel" "at" "I") zw_X12_digits_905) (fun _ h9 => h9) rfl dX12_digits_123 ?_
            refine lv_iconst (v := 1) hx hb dX12_digits_126 zci_1 ?_
            refine lv_iadd hx hb dX12_digits_127 ?_
            refine va_put (D := (dC, dI)) (ci := 12) (v := .int (s_33.2 + 1)) (ty := .int) (C := RX12) (T := TX12) (N := 67) hx hb hts zn_X12_digits_X12 tyX12 tyX12_ok nmX12 hown hK hP hD hS 0 rfl rfl 6 (of_decide_eq_true rfl) (hts (.fieldLink RX12 29 "ShortEnoughModel" "at" "I") zw_X12_digits_905) (fun _ h9 => h9) rfl (tyX12_ok 6 (of_decide_eq_true rfl)) rfl rfl (Nat.le_of_ble_eq_true rfl) dX12_digits_128 (fun H locs hP hD hS => ?_)
            have hP : va_P (dC, dI) vwCl [(h0, .inr (12, zO a0 (zI (zI b0 6 (s_33.2 + 1)) 7 o_6.2) c0)), zVi (a0 0) k1 1200 f1] H := hP
            have hD := zDW hD hP rfl
            refine lv_goto (tgt := 72) hx hb dX12_digits_131 (of_decide_eq_true rfl) ?_
            exact ih_33 (s_33.1, (s_33.2 + 1)) H locs ls hfn hP hD hS (lv_sub hl [0, 1] rfl)
          have hfn := (if_neg c_54).symm.trans hfn
          refine lv_ldc2 (v := 10) hx hb hown (hts (.constantLong RX12 255 (10)) zw_X12_digits_907) dX12_digits_97 ?_
          refine lv_lload_n hx hb dX12_digits_100 rfl (lv_at hl 0 rfl) ?_
          refine lv_lmul hx hb dX12_digits_101 ?_
          refine lv_aload_n hx hb dX12_digits_102 rfl (lv_at hl 1 rfl) ?_
          refine lv_aload_n hx hb dX12_digits_103 rfl (lv_at hl 1 rfl) ?_
          refine va_get (D := (dC, dI)) (ci := 12) (v := .int s_33.2) (C := RX12) (T := TX12) (N := 67) hx hb hts zn_X12_digits_X12 hown hK hP 0 rfl rfl 6 (of_decide_eq_true rfl) (hts (.fieldLink RX12 29 "ShortEnoughModel" "at" "I") zw_X12_digits_905) (fun _ h9 => h9) rfl dX12_digits_104 ?_
          obtain ⟨o_55, hqo_55, hfn⟩ := zb_s hfn
          refine zcVi (ci := 12) (rest := [.long ((10 : Int64) * s_33.1)]) (pc' := 110) (ws' := [(h0, .inr (12, zO a0 (zI (zI b0 6 s_33.2) 7 o_6.2) c0)), zVi (a0 0) k1 1200 f1]) hP hK hD hS hA ⟨hx, hb, hml, hown, hts⟩ (zf_X12_byteAt l dC dI h0 s_33.2 a0 (zI (zI b0 6 s_33.2) 7 o_6.2) c0 k1 f1 o_55 hqo_55 H.size) (cwV 1 hts gX12_digits_X12_byteAt rfl rfl rfl zhd_X12_byteAt ⟨Nat.le_of_ble_eq_true rfl, Nat.le_of_ble_eq_true rfl⟩) [0, 1] rfl (of_decide_eq_true rfl) [0] rfl rfl rfl rfl hl.1 rfl (Nat.le_of_ble_eq_true rfl) dX12_digits_107 ⟨Nat.le_of_ble_eq_true rfl, Nat.le_of_ble_eq_true rfl⟩ [some 0, some 1] (of_decide_eq_true rfl) (of_decide_eq_true rfl) rfl rfl rfl (fun H locs hP hD hS => ?_)
          refine lv_i2l (v := o_55.toInt64) hx hb dX12_digits_110 rfl ?_
          refine lv_ladd hx hb dX12_digits_111 ?_
          refine lv_ldc2 (v := 48) hx hb hown (hts (.constantLong RX12 257 (48)) zw_X12_digits_908) dX12_digits_112 ?_
          refine lv_lsub hx hb dX12_digits_115 ?_
          refine lv_goto (tgt := 120) hx hb dX12_digits_116 (of_decide_eq_true rfl) ?_
          refine lv_lstore_n (lv' := [(1, .long ((((10 : Int64) * s_33.1) + o_55.toInt64) - (48 : Int64))), (0, .ref h0)]) hx hb dX12_digits_120 rfl hl (of_decide_eq_true rfl) rfl (fun ls hl => ?_)
          refine lv_aload_n hx hb dX12_digits_121 rfl (lv_at hl 1 rfl) ?_
          refine lv_dup hx hb dX12_digits_122 rfl ?_
          refine va_get (D := (dC, dI)) (ci := 12) (v := .int s_33.2) (C := RX12) (T := TX12) (N := 67) hx hb hts zn_X12_digits_X12 hown hK hP 0 rfl rfl 6 (of_decide_eq_true rfl) (hts (.fieldLink RX12 29 "ShortEnoughModel" "at" "I") zw_X12_digits_905) (fun _ h9 => h9) rfl dX12_digits_123 ?_
          refine lv_iconst (v := 1) hx hb dX12_digits_126 zci_1 ?_
          refine lv_iadd hx hb dX12_digits_127 ?_
          refine va_put (D := (dC, dI)) (ci := 12) (v := .int (s_33.2 + 1)) (ty := .int) (C := RX12) (T := TX12) (N := 67) hx hb hts zn_X12_digits_X12 tyX12 tyX12_ok nmX12 hown hK hP hD hS 0 rfl rfl 6 (of_decide_eq_true rfl) (hts (.fieldLink RX12 29 "ShortEnoughModel" "at" "I") zw_X12_digits_905) (fun _ h9 => h9) rfl (tyX12_ok 6 (of_decide_eq_true rfl)) rfl rfl (Nat.le_of_ble_eq_true rfl) dX12_digits_128 (fun H locs hP hD hS => ?_)
          have hP : va_P (dC, dI) vwCl [(h0, .inr (12, zO a0 (zI (zI b0 6 (s_33.2 + 1)) 7 o_6.2) c0)), zVi (a0 0) k1 1200 f1] H := hP
          have hD := zDW hD hP rfl
          refine lv_goto (tgt := 72) hx hb dX12_digits_131 (of_decide_eq_true rfl) ?_
          exact ih_33 (((((10 : Int64) * s_33.1) + o_55.toInt64) - (48 : Int64)), (s_33.2 + 1)) H locs ls hfn hP hD hS (lv_sub hl [0, 1] rfl)
      exact lp_33 _ (0, o_6.2) H locs ls hfn hP hD hS (lv_sub hl [0, 1] rfl)
    have hfn := (if_neg c_32).symm.trans hfn
    refine lv_aload_n hx hb dX12_digits_59 rfl (lv_at hl 0 rfl) ?_
    refine lv_iconst (v := 1) hx hb dX12_digits_60 zci_1 ?_
    refine lv_aload_n hx hb dX12_digits_61 rfl (lv_at hl 0 rfl) ?_
    refine va_get (D := (dC, dI)) (ci := 12) (v := .int o_6.2) (C := RX12) (T := TX12) (N := 67) hx hb hts zn_X12_digits_X12 hown hK hP 0 rfl rfl 6 (of_decide_eq_true rfl) (hts (.fieldLink RX12 29 "ShortEnoughModel" "at" "I") zw_X12_digits_905) (fun _ h9 => h9) rfl dX12_digits_62 ?_
    obtain ⟨o_59, hqo_59, hfn⟩ := zb_s hfn
    refine zcVv (ci := 12) (rest := []) (pc' := 68) (ws' := [(h0, .inr (12, zO a0 (zI (zI (zI (zI b0 6 o_6.2) 7 o_6.2) 8 o_59.1) 9 o_59.2) c0)), zVi (a0 0) k1 1200 f1]) hP hK hD hS hA ⟨hx, hb, hml, hown, hts⟩ (zf_X12_faults l dC dI h0 1 o_6.2 a0 (zI (zI b0 6 o_6.2) 7 o_6.2) c0 o_59 hqo_59 H.size) (cwV 2 hts gX12_digits_X12_faults rfl rfl rfl zhd_X12_faults ⟨Nat.le_of_ble_eq_true rfl, Nat.le_of_ble_eq_true rfl⟩) [0] rfl (of_decide_eq_true rfl) [] rfl rfl rfl rfl hl.1 rfl (Nat.le_of_ble_eq_true rfl) dX12_digits_65 ⟨Nat.le_of_ble_eq_true rfl, Nat.le_of_ble_eq_true rfl⟩ [some 0] (of_decide_eq_true rfl) (of_decide_eq_true rfl) rfl rfl rfl (fun H locs hP hD hS => ?_)
    refine lv_lconst (v := 0) hx hb dX12_digits_68 (by decide +kernel) ?_
    have ho := Option.some.inj hfn
    subst ho
    exact zrl hx hb hr hK hP hD hS hQ rfl hlocks dX12_digits_69
  have hfn := (if_pos c_5).symm.trans hfn
  refine lv_lconst (v := 0) hx hb dX12_digits_7 (by decide +kernel) ?_
  have ho := Option.some.inj hfn
  subst ho
  exact zrl hx hb hr hK hP hD hS hQ rfl hlocks dX12_digits_8
theorem zn_X12_number_X12 : ∀ w ∈ wsX120, w ∈ wsX12_number := fun _ h => List.mem_cons_of_mem _ (List.mem_append_right _ h)
theorem zw_X12_number_910 : Cond.fieldLink RX12 32 "ShortEnoughModel" "begun" "I" ∈ wsX12_number := List.mem_of_getElem? (i := 1) (by decide +kernel)
set_option maxHeartbeats 4000000 in
set_option maxRecDepth 100000 in
theorem zf_X12_number (l : Launch) (dC : Nat → ClassId) (dI : Nat → Nat → Nat) (h0 : Nat) (j1 : Int64) (j2 : Int64) (a0 : Nat → Nat) (b0 : Nat → Int32) (c0 : Nat → Int64) (k1 : Nat) (f1 : Nat → Int32) (o : Int64 × Int32 × Int32 × Int32 × Int32) (hfn : fn_X12_number j1 j2 (b0 5) (b0 6) (b0 7) (b0 8) (b0 9) f1 = some o) (sz : Nat) : zMl l yX12_number wsX12_number ({ frames := 3, cells := 0, slots := 0, locals := 64 }) (dC, dI) vwCl [.ref h0, .long j1, .long j2] [(h0, .inr (12, zO a0 b0 c0)), zVi (a0 0) k1 1200 f1] [(k1, .int)] (fun r _ => r = o.1) [(h0, .inr (12, zO a0 (zI (zI (zI (zI b0 6 o.2.1) 7 o.2.2.1) 8 o.2.2.2.1) 9 o.2.2.2.2) c0)), zVi (a0 0) k1 1200 f1] [(k1, .int)] sz := by
  refine zgol (cc := cX12_number) (maxL := 7) (ret := (some .long)) (C0 := RX12) (lv0 := [(0, .ref h0), (1, .long j1), (3, .long j2)]) zpl_X12 rfl rfl rfl (Nat.le_of_ble_eq_true rfl) ?_
  intro p e s m below meth c A ls Q hx hb hr hts hown hlocks hml hP hK hD hA hS hl hQ
  unfold fn_X12_number at hfn
  refine lv_aload_n hx hb dX12_number_0 rfl (lv_at hl 0 rfl) ?_
  obtain ⟨o_1, hqo_1, hfn⟩ := zb_s hfn
  refine zcVl (ci := 12) (rest := []) (pc' := 4) (ws' := [(h0, .inr (12, zO a0 (zI (zI (zI (zI b0 6 o_1.2.1) 7 o_1.2.2.1) 8 o_1.2.2.2.1) 9 o_1.2.2.2.2) c0)), zVi (a0 0) k1 1200 f1]) hP hK hD hS hA ⟨hx, hb, hml, hown, hts⟩ (zf_X12_digits l dC dI h0 a0 b0 c0 k1 f1 o_1 hqo_1 s.heap.size) (cwV 0 hts gX12_number_X12_digits rfl rfl rfl zhd_X12_digits ⟨Nat.le_of_ble_eq_true rfl, Nat.le_of_ble_eq_true rfl⟩) [0, 1] rfl (of_decide_eq_true rfl) [0] rfl rfl rfl rfl hl.1 rfl (Nat.le_of_ble_eq_true rfl) dX12_number_1 ⟨Nat.le_of_ble_eq_true rfl, Nat.le_of_ble_eq_true rfl⟩ [some 0, some 1] (of_decide_eq_true rfl) (of_decide_eq_true rfl) rfl rfl rfl (fun H locs hP hD hS => ?_)
  refine lv_lstore (lv' := [(5, .long o_1.1), (0, .ref h0), (1, .long j1), (3, .long j2)]) hx hb dX12_number_4 hl (of_decide_eq_true rfl) rfl (fun ls hl => ?_)
  refine lv_aload_n hx hb dX12_number_6 rfl (lv_at hl 1 rfl) ?_
  obtain ⟨o_5, hqo_5, hfn⟩ := zb_s hfn
  refine zcVb (ci := 12) (rest := []) (pc' := 10) (ws' := [(h0, .inr (12, zO a0 (zI (zI (zI (zI b0 6 o_1.2.1) 7 o_1.2.2.1) 8 o_1.2.2.2.1) 9 o_1.2.2.2.2) c0)), zVi (a0 0) k1 1200 f1]) hP hK hD hS hA ⟨hx, hb, hml, hown, hts⟩ (zf_X12_goesWell l dC dI h0 a0 (zI (zI (zI (zI b0 6 o_1.2.1) 7 o_1.2.2.1) 8 o_1.2.2.2.1) 9 o_1.2.2.2.2) c0 o_5 hqo_5 H.size) (cwV 0 hts gX12_number_X12_goesWell rfl rfl rfl zhd_X12_goesWell ⟨Nat.le_of_ble_eq_true rfl, Nat.le_of_ble_eq_true rfl⟩) [0] rfl (of_decide_eq_true rfl) [] rfl rfl rfl rfl hl.1 rfl (Nat.le_of_ble_eq_true rfl) dX12_number_7 ⟨Nat.le_of_ble_eq_true rfl, Nat.le_of_ble_eq_true rfl⟩ [some 0] (of_decide_eq_true rfl) (of_decide_eq_true rfl) rfl rfl rfl (fun H locs hw_8n hP hD hS => ?_)
  refine lv_if_eq (tgt := 32) hx hb dX12_number_10 (of_decide_eq_true rfl) (fun c_9 => ?_) (fun c_9 => ?_)
  · have hfn := (if_pos c_9).symm.trans hfn
    refine lv_aload_n hx hb dX12_number_32 rfl (lv_at hl 1 rfl) ?_
    obtain ⟨o_10, hqo_10, hfn⟩ := zb_s hfn
    refine zcVb (ci := 12) (rest := []) (pc' := 36) (ws' := [(h0, .inr (12, zO a0 (zI (zI (zI (zI b0 6 o_1.2.1) 7 o_1.2.2.1) 8 o_1.2.2.2.1) 9 o_1.2.2.2.2) c0)), zVi (a0 0) k1 1200 f1]) hP hK hD hS hA ⟨hx, hb, hml, hown, hts⟩ (zf_X12_goesWell l dC dI h0 a0 (zI (zI (zI (zI b0 6 o_1.2.1) 7 o_1.2.2.1) 8 o_1.2.2.2.1) 9 o_1.2.2.2.2) c0 o_10 hqo_10 H.size) (cwV 0 hts gX12_number_X12_goesWell rfl rfl rfl zhd_X12_goesWell ⟨Nat.le_of_ble_eq_true rfl, Nat.le_of_ble_eq_true rfl⟩) [0] rfl (of_decide_eq_true rfl) [] rfl rfl rfl rfl hl.1 rfl (Nat.le_of_ble_eq_true rfl) dX12_number_33 ⟨Nat.le_of_ble_eq_true rfl, Nat.le_of_ble_eq_true rfl⟩ [some 0] (of_decide_eq_true rfl) (of_decide_eq_true rfl) rfl rfl rfl (fun H locs hw_13n hP hD hS => ?_)
    refine lv_if_eq (tgt := 44) hx hb dX12_number_36 (of_decide_eq_true rfl) (fun c_14 => ?_) (fun c_14 => ?_)
    · have hfn := (if_pos c_14).symm.trans hfn
      refine lv_lconst (v := 0) hx hb dX12_number_44 (by decide +kernel) ?_
      have ho := Option.some.inj hfn
      subst ho
      exact zrl hx hb hr hK hP hD hS hQ rfl hlocks dX12_number_45
    have hfn := (if_neg c_14).symm.trans hfn
    refine lv_lload hx hb dX12_number_39 (lv_at hl 0 rfl) ?_
    refine lv_goto (tgt := 45) hx hb dX12_number_41 (of_decide_eq_true rfl) ?_
    have ho := Option.some.inj hfn
    subst ho
    exact zrl hx hb hr hK hP hD hS hQ rfl hlocks dX12_number_45
  have hfn := (if_neg c_9).symm.trans hfn
  refine lv_lload hx hb dX12_number_13 (lv_at hl 0 rfl) ?_
  refine lv_lload_n hx hb dX12_number_15 rfl (lv_at hl 2 rfl) ?_
  refine lv_lload_n hx hb dX12_number_16 rfl (lv_at hl 3 rfl) ?_
  obtain ⟨o_15, hqo_15, hfn⟩ := zb_s hfn
  refine zcSb (rest := []) (pc' := 20) (ws' := [(h0, .inr (12, zO a0 (zI (zI (zI (zI b0 6 o_1.2.1) 7 o_1.2.2.1) 8 o_1.2.2.2.1) 9 o_1.2.2.2.2) c0)), zVi (a0 0) k1 1200 f1]) hP hK hD hS hA ⟨hx, hb, hml, hown, hts⟩ (zf_X12_isIn l dC dI o_1.1 j1 j2 o_15 hqo_15 H.size) (va_cwS 3 hts gX12_number_X12_isIn rfl rfl rfl zhd_X12_isIn.2 ⟨Nat.le_of_ble_eq_true rfl, Nat.le_of_ble_eq_true rfl⟩) [] rfl (of_decide_eq_true rfl) [] rfl rfl hl.1 rfl (Nat.le_of_ble_eq_true rfl) dX12_number_17 ⟨Nat.le_of_ble_eq_true rfl, Nat.le_of_ble_eq_true rfl⟩ [] (of_decide_eq_true rfl) (of_decide_eq_true rfl) rfl rfl rfl (fun H locs hw_18n hP hD hS => ?_)
  refine lv_if_ne (tgt := 32) hx hb dX12_number_20 (of_decide_eq_true rfl) (fun c_19 => ?_) (fun c_19 => ?_)
  · have hfn := (if_neg c_19).symm.trans hfn
    refine lv_aload_n hx hb dX12_number_32 rfl (lv_at hl 1 rfl) ?_
    obtain ⟨o_20, hqo_20, hfn⟩ := zb_s hfn
    refine zcVb (ci := 12) (rest := []) (pc' := 36) (ws' := [(h0, .inr (12, zO a0 (zI (zI (zI (zI b0 6 o_1.2.1) 7 o_1.2.2.1) 8 o_1.2.2.2.1) 9 o_1.2.2.2.2) c0)), zVi (a0 0) k1 1200 f1]) hP hK hD hS hA ⟨hx, hb, hml, hown, hts⟩ (zf_X12_goesWell l dC dI h0 a0 (zI (zI (zI (zI b0 6 o_1.2.1) 7 o_1.2.2.1) 8 o_1.2.2.2.1) 9 o_1.2.2.2.2) c0 o_20 hqo_20 H.size) (cwV 0 hts gX12_number_X12_goesWell rfl rfl rfl zhd_X12_goesWell ⟨Nat.le_of_ble_eq_true rfl, Nat.le_of_ble_eq_true rfl⟩) [0] rfl (of_decide_eq_true rfl) [] rfl rfl rfl rfl hl.1 rfl (Nat.le_of_ble_eq_true rfl) dX12_number_33 ⟨Nat.le_of_ble_eq_true rfl, Nat.le_of_ble_eq_true rfl⟩ [some 0] (of_decide_eq_true rfl) (of_decide_eq_true rfl) rfl rfl rfl (fun H locs hw_23n hP hD hS => ?_)
    refine lv_if_eq (tgt := 44) hx hb dX12_number_36 (of_decide_eq_true rfl) (fun c_24 => ?_) (fun c_24 => ?_)
    · have hfn := (if_pos c_24).symm.trans hfn
      refine lv_lconst (v := 0) hx hb dX12_number_44 (by decide +kernel) ?_
      have ho := Option.some.inj hfn
      subst ho
      exact zrl hx hb hr hK hP hD hS hQ rfl hlocks dX12_number_45
    have hfn := (if_neg c_24).symm.trans hfn
    refine lv_lload hx hb dX12_number_39 (lv_at hl 0 rfl) ?_
    refine lv_goto (tgt := 45) hx hb dX12_number_41 (of_decide_eq_true rfl) ?_
    have ho := Option.some.inj hfn
    subst ho
    exact zrl hx hb hr hK hP hD hS hQ rfl hlocks dX12_number_45
  have hfn := (if_pos c_19).symm.trans hfn
  refine lv_aload_n hx hb dX12_number_23 rfl (lv_at hl 1 rfl) ?_
  refine lv_iconst (v := 2) hx hb dX12_number_24 zci_2 ?_
  refine lv_aload_n hx hb dX12_number_25 rfl (lv_at hl 1 rfl) ?_
  refine va_get (D := (dC, dI)) (ci := 12) (v := .int o_1.2.2.1) (C := RX12) (T := TX12) (N := 67) hx hb hts zn_X12_number_X12 hown hK hP 0 rfl rfl 7 (of_decide_eq_true rfl) (hts (.fieldLink RX12 32 "ShortEnoughModel" "begun" "I") zw_X12_number_910) (fun _ h9 => h9) rfl dX12_number_26 ?_
  obtain ⟨o_25, hqo_25, hfn⟩ := zb_s hfn
  refine zcVv (ci := 12) (rest := []) (pc' := 32) (ws' := [(h0, .inr (12, zO a0 (zI (zI (zI (zI b0 6 o_1.2.1) 7 o_1.2.2.1) 8 o_25.1) 9 o_25.2) c0)), zVi (a0 0) k1 1200 f1]) hP hK hD hS hA ⟨hx, hb, hml, hown, hts⟩ (zf_X12_faults l dC dI h0 2 o_1.2.2.1 a0 (zI (zI (zI (zI b0 6 o_1.2.1) 7 o_1.2.2.1) 8 o_1.2.2.2.1) 9 o_1.2.2.2.2) c0 o_25 hqo_25 H.size) (cwV 2 hts gX12_number_X12_faults rfl rfl rfl zhd_X12_faults ⟨Nat.le_of_ble_eq_true rfl, Nat.le_of_ble_eq_true rfl⟩) [0] rfl (of_decide_eq_true rfl) [] rfl rfl rfl rfl hl.1 rfl (Nat.le_of_ble_eq_true rfl) dX12_number_29 ⟨Nat.le_of_ble_eq_true rfl, Nat.le_of_ble_eq_true rfl⟩ [some 0] (of_decide_eq_true rfl) (of_decide_eq_true rfl) rfl rfl rfl (fun H locs hP hD hS => ?_)
  refine lv_aload_n hx hb dX12_number_32 rfl (lv_at hl 1 rfl) ?_
  obtain ⟨o_29, hqo_29, hfn⟩ := zb_s hfn
  refine zcVb (ci := 12) (rest := []) (pc' := 36) (ws' := [(h0, .inr (12, zO a0 (zI (zI (zI (zI b0 6 o_1.2.1) 7 o_1.2.2.1) 8 o_25.1) 9 o_25.2) c0)), zVi (a0 0) k1 1200 f1]) hP hK hD hS hA ⟨hx, hb, hml, hown, hts⟩ (zf_X12_goesWell l dC dI h0 a0 (zI (zI (zI (zI b0 6 o_1.2.1) 7 o_1.2.2.1) 8 o_25.1) 9 o_25.2) c0 o_29 hqo_29 H.size) (cwV 0 hts gX12_number_X12_goesWell rfl rfl rfl zhd_X12_goesWell ⟨Nat.le_of_ble_eq_true rfl, Nat.le_of_ble_eq_true rfl⟩) [0] rfl (of_decide_eq_true rfl) [] rfl rfl rfl rfl hl.1 rfl (Nat.le_of_ble_eq_true rfl) dX12_number_33 ⟨Nat.le_of_ble_eq_true rfl, Nat.le_of_ble_eq_true rfl⟩ [some 0] (of_decide_eq_true rfl) (of_decide_eq_true rfl) rfl rfl rfl (fun H locs hw_32n hP hD hS => ?_)
  refine lv_if_eq (tgt := 44) hx hb dX12_number_36 (of_decide_eq_true rfl) (fun c_33 => ?_) (fun c_33 => ?_)
  · have hfn := (if_pos c_33).symm.trans hfn
    refine lv_lconst (v := 0) hx hb dX12_number_44 (by decide +kernel) ?_
    have ho := Option.some.inj hfn
    subst ho
    exact zrl hx hb hr hK hP hD hS hQ rfl hlocks dX12_number_45
  have hfn := (if_neg c_33).symm.trans hfn
  refine lv_lload hx hb dX12_number_39 (lv_at hl 0 rfl) ?_
  refine lv_goto (tgt := 45) hx hb dX12_number_41 (of_decide_eq_true rfl) ?_
  have ho := Option.some.inj hfn
  subst ho
  exact zrl hx hb hr hK hP hD hS hQ rfl hlocks dX12_number_45
theorem zn_X12_signed_X12 : ∀ w ∈ wsX120, w ∈ wsX12_signed := fun _ h => List.mem_cons_of_mem _ (List.mem_append_right _ h)
theorem zw_X12_signed_912 : Cond.fieldLink RX12 29 "ShortEnoughModel" "at" "I" ∈ wsX12_signed := List.mem_of_getElem? (i := 1) (by decide +kernel)
theorem zw_X12_signed_913 : Cond.fieldLink RX12 32 "ShortEnoughModel" "begun" "I" ∈ wsX12_signed := List.mem_of_getElem? (i := 2) (by decide +kernel)
set_option maxHeartbeats 4000000 in
set_option maxRecDepth 100000 in
theorem zf_X12_signed (l : Launch) (dC : Nat → ClassId) (dI : Nat → Nat → Nat) (h0 : Nat) (j1 : Int64) (j2 : Int64) (a0 : Nat → Nat) (b0 : Nat → Int32) (c0 : Nat → Int64) (k1 : Nat) (f1 : Nat → Int32) (o : Int64 × Int32 × Int32 × Int32 × Int32) (hfn : fn_X12_signed j1 j2 (b0 5) (b0 6) (b0 7) (b0 8) (b0 9) f1 = some o) (sz : Nat) : zMl l yX12_signed wsX12_signed ({ frames := 3, cells := 0, slots := 0, locals := 64 }) (dC, dI) vwCl [.ref h0, .long j1, .long j2] [(h0, .inr (12, zO a0 b0 c0)), zVi (a0 0) k1 1200 f1] [(k1, .int)] (fun r _ => r = o.1) [(h0, .inr (12, zO a0 (zI (zI (zI (zI b0 6 o.2.1) 7 o.2.2.1) 8 o.2.2.2.1) 9 o.2.2.2.2) c0)), zVi (a0 0) k1 1200 f1] [(k1, .int)] sz := by
  refine zgol (cc := cX12_signed) (maxL := 9) (ret := (some .long)) (C0 := RX12) (lv0 := [(0, .ref h0), (1, .long j1), (3, .long j2)]) zpl_X12 rfl rfl rfl (Nat.le_of_ble_eq_true rfl) ?_
  intro p e s m below meth c A ls Q hx hb hr hts hown hlocks hml hP hK hD hA hS hl hQ
  unfold fn_X12_signed at hfn
  refine lv_aload_n hx hb dX12_signed_0 rfl (lv_at hl 0 rfl) ?_
  obtain ⟨o_1, hqo_1, hfn⟩ := zb_s hfn
  refine zcVb (ci := 12) (rest := []) (pc' := 4) (ws' := [(h0, .inr (12, zO a0 b0 c0)), zVi (a0 0) k1 1200 f1]) hP hK hD hS hA ⟨hx, hb, hml, hown, hts⟩ (zf_X12_goesWell l dC dI h0 a0 b0 c0 o_1 hqo_1 s.heap.size) (cwV 0 hts gX12_signed_X12_goesWell rfl rfl rfl zhd_X12_goesWell ⟨Nat.le_of_ble_eq_true rfl, Nat.le_of_ble_eq_true rfl⟩) [0] rfl (of_decide_eq_true rfl) [] rfl rfl rfl rfl hl.1 rfl (Nat.le_of_ble_eq_true rfl) dX12_signed_1 ⟨Nat.le_of_ble_eq_true rfl, Nat.le_of_ble_eq_true rfl⟩ [some 0] (of_decide_eq_true rfl) (of_decide_eq_true rfl) rfl rfl rfl (fun H locs hw_4n hP hD hS => ?_)
  refine lv_if_ne (tgt := 9) hx hb dX12_signed_4 (of_decide_eq_true rfl) (fun c_5 => ?_) (fun c_5 => ?_)
  · have hfn := (if_neg c_5).symm.trans hfn
    refine lv_aload_n hx hb dX12_signed_9 rfl (lv_at hl 0 rfl) ?_
    obtain ⟨o_6, hqo_6, hfn⟩ := zb_s hfn
    refine zcVi (ci := 12) (rest := []) (pc' := 13) (ws' := [(h0, .inr (12, zO a0 (zI b0 6 o_6.2) c0)), zVi (a0 0) k1 1200 f1]) hP hK hD hS hA ⟨hx, hb, hml, hown, hts⟩ (zf_X12_here l dC dI h0 a0 b0 c0 k1 f1 o_6 hqo_6 H.size) (cwV 0 hts gX12_signed_X12_here rfl rfl rfl zhd_X12_here ⟨Nat.le_of_ble_eq_true rfl, Nat.le_of_ble_eq_true rfl⟩) [0, 1] rfl (of_decide_eq_true rfl) [0] rfl rfl rfl rfl hl.1 rfl (Nat.le_of_ble_eq_true rfl) dX12_signed_10 ⟨Nat.le_of_ble_eq_true rfl, Nat.le_of_ble_eq_true rfl⟩ [some 0, some 1] (of_decide_eq_true rfl) (of_decide_eq_true rfl) rfl rfl rfl (fun H locs hP hD hS => ?_)
    refine lv_bipush (v := 45) hx hb dX12_signed_13 zcb_45 ?_
    obtain ⟨j_10, ej_10, hfn⟩ := zj_g hfn
    have jp_10 : ∀ (s_10 : Int32) (H : Heap) (locs : List Loc) (ls : Array Slot), j_10 s_10 = some o → va_P (dC, dI) vwCl [(h0, .inr (12, zO a0 (zI b0 6 o_6.2) c0)), zVi (a0 0) k1 1200 f1] H → va_D A [(h0, .inr (12, zO a0 (zI b0 6 o_6.2) c0)), zVi (a0 0) k1 1200 f1] → va_S A s.heap H locs → lv_has ls 9 [(0, .ref h0), (1, .long j1), (3, .long j2)] → W p l e (headSpec wsX12_signed ({ frames := 3, cells := 0, slots := 0, locals := 64 })).room s m ([.ref h0, .long j1, .long j2] : List Value).toArray below meth c H locs 0 0 Q (F0 m 23 ls [.int s_10]) := by
      intro s_10 H locs ls hfn hP hD hS hl
      have hfn := zj_s ej_10 hfn
      refine lv_istore (lv' := [(5, .int s_10), (0, .ref h0), (1, .long j1), (3, .long j2)]) hx hb dX12_signed_23 hl (of_decide_eq_true rfl) rfl (fun ls hl => ?_)
      refine lv_aload_n hx hb dX12_signed_25 rfl (lv_at hl 1 rfl) ?_
      refine va_get (D := (dC, dI)) (ci := 12) (v := .int o_6.2) (C := RX12) (T := TX12) (N := 67) hx hb hts zn_X12_signed_X12 hown hK hP 0 rfl rfl 6 (of_decide_eq_true rfl) (hts (.fieldLink RX12 29 "ShortEnoughModel" "at" "I") zw_X12_signed_912) (fun _ h9 => h9) rfl dX12_signed_26 ?_
      refine lv_istore (lv' := [(6, .int o_6.2), (5, .int s_10), (0, .ref h0), (1, .long j1), (3, .long j2)]) hx hb dX12_signed_29 hl (of_decide_eq_true rfl) rfl (fun ls hl => ?_)
      refine lv_iload hx hb dX12_signed_31 (lv_at hl 1 rfl) ?_
      obtain ⟨j_11, ej_11, hfn⟩ := zj_g hfn
      have jp_11 : ∀ (s_11 : Int32) (H : Heap) (locs : List Loc) (ls : Array Slot), j_11 s_11 = some o → va_P (dC, dI) vwCl [(h0, .inr (12, zO a0 (zI b0 6 s_11) c0)), zVi (a0 0) k1 1200 f1] H → va_D A [(h0, .inr (12, zO a0 (zI b0 6 s_11) c0)), zVi (a0 0) k1 1200 f1] → va_S A s.heap H locs → lv_has ls 9 [(6, .int o_6.2), (5, .int s_10), (0, .ref h0), (1, .long j1), (3, .long j2)] → W p l e (headSpec wsX12_signed ({ frames := 3, cells := 0, slots := 0, locals := 64 })).room s m ([.ref h0, .long j1, .long j2] : List Value).toArray below meth c H locs 0 0 Q (F0 m 46 ls []) := by
        intro s_11 H locs ls hfn hP hD hS hl
        have hfn := zj_s ej_11 hfn
        refine lv_aload_n hx hb dX12_signed_46 rfl (lv_at hl 2 rfl) ?_
        obtain ⟨o_12, hqo_12, hfn⟩ := zb_s hfn
        refine zcVl (ci := 12) (rest := []) (pc' := 50) (ws' := [(h0, .inr (12, zO a0 (zI (zI (zI (zI b0 6 o_12.2.1) 7 o_12.2.2.1) 8 o_12.2.2.2.1) 9 o_12.2.2.2.2) c0)), zVi (a0 0) k1 1200 f1]) hP hK hD hS hA ⟨hx, hb, hml, hown, hts⟩ (zf_X12_digits l dC dI h0 a0 (zI b0 6 s_11) c0 k1 f1 o_12 hqo_12 H.size) (cwV 0 hts gX12_signed_X12_digits rfl rfl rfl zhd_X12_digits ⟨Nat.le_of_ble_eq_true rfl, Nat.le_of_ble_eq_true rfl⟩) [0, 1] rfl (of_decide_eq_true rfl) [0] rfl rfl rfl rfl hl.1 rfl (Nat.le_of_ble_eq_true rfl) dX12_signed_47 ⟨Nat.le_of_ble_eq_true rfl, Nat.le_of_ble_eq_true rfl⟩ [some 0, some 1] (of_decide_eq_true rfl) (of_decide_eq_true rfl) rfl rfl rfl (fun H locs hP hD hS => ?_)
        refine lv_lstore (lv' := [(7, .long o_12.1), (6, .int o_6.2), (5, .int s_10), (0, .ref h0), (1, .long j1), (3, .long j2)]) hx hb dX12_signed_50 hl (of_decide_eq_true rfl) rfl (fun ls hl => ?_)
        refine lv_iload hx hb dX12_signed_52 (lv_at hl 2 rfl) ?_
        obtain ⟨j_16, ej_16, hfn⟩ := zj_g hfn
        have jp_16 : ∀ (s_16 : Int64) (H : Heap) (locs : List Loc) (ls : Array Slot), j_16 s_16 = some o → va_P (dC, dI) vwCl [(h0, .inr (12, zO a0 (zI (zI (zI (zI b0 6 o_12.2.1) 7 o_12.2.2.1) 8 o_12.2.2.2.1) 9 o_12.2.2.2.2) c0)), zVi (a0 0) k1 1200 f1] H → va_D A [(h0, .inr (12, zO a0 (zI (zI (zI (zI b0 6 o_12.2.1) 7 o_12.2.2.1) 8 o_12.2.2.2.1) 9 o_12.2.2.2.2) c0)), zVi (a0 0) k1 1200 f1] → va_S A s.heap H locs → lv_has ls 9 [(6, .int o_6.2), (0, .ref h0), (1, .long j1), (3, .long j2)] → W p l e (headSpec wsX12_signed ({ frames := 3, cells := 0, slots := 0, locals := 64 })).room s m ([.ref h0, .long j1, .long j2] : List Value).toArray below meth c H locs 0 0 Q (F0 m 65 ls [.long s_16]) := by
          intro s_16 H locs ls hfn hP hD hS hl
          have hfn := zj_s ej_16 hfn
          refine lv_lstore (lv' := [(7, .long s_16), (6, .int o_6.2), (0, .ref h0), (1, .long j1), (3, .long j2)]) hx hb dX12_signed_65 hl (of_decide_eq_true rfl) rfl (fun ls hl => ?_)
          refine lv_aload_n hx hb dX12_signed_67 rfl (lv_at hl 2 rfl) ?_
          obtain ⟨o_17, hqo_17, hfn⟩ := zb_s hfn
          refine zcVb (ci := 12) (rest := []) (pc' := 71) (ws' := [(h0, .inr (12, zO a0 (zI (zI (zI (zI b0 6 o_12.2.1) 7 o_12.2.2.1) 8 o_12.2.2.2.1) 9 o_12.2.2.2.2) c0)), zVi (a0 0) k1 1200 f1]) hP hK hD hS hA ⟨hx, hb, hml, hown, hts⟩ (zf_X12_goesWell l dC dI h0 a0 (zI (zI (zI (zI b0 6 o_12.2.1) 7 o_12.2.2.1) 8 o_12.2.2.2.1) 9 o_12.2.2.2.2) c0 o_17 hqo_17 H.size) (cwV 0 hts gX12_signed_X12_goesWell rfl rfl rfl zhd_X12_goesWell ⟨Nat.le_of_ble_eq_true rfl, Nat.le_of_ble_eq_true rfl⟩) [0] rfl (of_decide_eq_true rfl) [] rfl rfl rfl rfl hl.1 rfl (Nat.le_of_ble_eq_true rfl) dX12_signed_68 ⟨Nat.le_of_ble_eq_true rfl, Nat.le_of_ble_eq_true rfl⟩ [some 0] (of_decide_eq_true rfl) (of_decide_eq_true rfl) rfl rfl rfl (fun H locs hw_20n hP hD hS => ?_)
          obtain ⟨j_21, ej_21, hfn⟩ := zj_g hfn
          have jp_21 : ∀ (s_21 : Int32 × Int32) (H : Heap) (locs : List Loc) (ls : Array Slot), j_21 s_21 = some o → va_P (dC, dI) vwCl [(h0, .inr (12, zO a0 (zI (zI (zI (zI b0 6 o_12.2.1) 7 o_12.2.2.1) 8 s_21.1) 9 s_21.2) c0)), zVi (a0 0) k1 1200 f1] H → va_D A [(h0, .inr (12, zO a0 (zI (zI (zI (zI b0 6 o_12.2.1) 7 o_12.2.2.1) 8 s_21.1) 9 s_21.2) c0)), zVi (a0 0) k1 1200 f1] → va_S A s.heap H locs → lv_has ls 9 [(7, .long s_16), (6, .int o_6.2), (0, .ref h0)] → W p l e (headSpec wsX12_signed ({ frames := 3, cells := 0, slots := 0, locals := 64 })).room s m ([.ref h0, .long j1, .long j2] : List Value).toArray below meth c H locs 0 0 Q (F0 m 91 ls []) := by
            intro s_21 H locs ls hfn hP hD hS hl
            have hfn := zj_s ej_21 hfn
            refine lv_aload_n hx hb dX12_signed_91 rfl (lv_at hl 2 rfl) ?_
            refine lv_iload hx hb dX12_signed_92 (lv_at hl 1 rfl) ?_
            refine va_put (D := (dC, dI)) (ci := 12) (v := .int o_6.2) (ty := .int) (C := RX12) (T := TX12) (N := 67) hx hb hts zn_X12_signed_X12 tyX12 tyX12_ok nmX12 hown hK hP hD hS 0 rfl rfl 7 (of_decide_eq_true rfl) (hts (.fieldLink RX12 32 "ShortEnoughModel" "begun" "I") zw_X12_signed_913) (fun _ h9 => h9) rfl (tyX12_ok 7 (of_decide_eq_true rfl)) rfl rfl (Nat.le_of_ble_eq_true rfl) dX12_signed_94 (fun H locs hP hD hS => ?_)
            have hP : va_P (dC, dI) vwCl [(h0, .inr (12, zO a0 (zI (zI (zI (zI b0 6 o_12.2.1) 7 o_6.2) 8 s_21.1) 9 s_21.2) c0)), zVi (a0 0) k1 1200 f1] H := hP
            have hD := zDW hD hP rfl
            refine lv_aload_n hx hb dX12_signed_97 rfl (lv_at hl 2 rfl) ?_
            obtain ⟨o_22, hqo_22, hfn⟩ := zb_s hfn
            refine zcVb (ci := 12) (rest := []) (pc' := 101) (ws' := [(h0, .inr (12, zO a0 (zI (zI (zI (zI b0 6 o_12.2.1) 7 o_6.2) 8 s_21.1) 9 s_21.2) c0)), zVi (a0 0) k1 1200 f1]) hP hK hD hS hA ⟨hx, hb, hml, hown, hts⟩ (zf_X12_goesWell l dC dI h0 a0 (zI (zI (zI (zI b0 6 o_12.2.1) 7 o_6.2) 8 s_21.1) 9 s_21.2) c0 o_22 hqo_22 H.size) (cwV 0 hts gX12_signed_X12_goesWell rfl rfl rfl zhd_X12_goesWell ⟨Nat.le_of_ble_eq_true rfl, Nat.le_of_ble_eq_true rfl⟩) [0] rfl (of_decide_eq_true rfl) [] rfl rfl rfl rfl hl.1 rfl (Nat.le_of_ble_eq_true rfl) dX12_signed_98 ⟨Nat.le_of_ble_eq_true rfl, Nat.le_of_ble_eq_true rfl⟩ [some 0] (of_decide_eq_true rfl) (of_decide_eq_true rfl) rfl rfl rfl (fun H locs hw_25n hP hD hS => ?_)
            refine lv_if_eq (tgt := 109) hx hb dX12_signed_101 (of_decide_eq_true rfl) (fun c_26 => ?_) (fun c_26 => ?_)
            · have hfn := (if_pos c_26).symm.trans hfn
              refine lv_lconst (v := 0) hx hb dX12_signed_109 (by decide +kernel) ?_
              have ho := Option.some.inj hfn
              subst ho
              exact zrl hx hb hr hK hP hD hS hQ rfl hlocks dX12_signed_110
            have hfn := (if_neg c_26).symm.trans hfn
            refine lv_lload hx hb dX12_signed_104 (lv_at hl 0 rfl) ?_
            refine lv_goto (tgt := 110) hx hb dX12_signed_106 (of_decide_eq_true rfl) ?_
            have ho := Option.some.inj hfn
            subst ho
            exact zrl hx hb hr hK hP hD hS hQ rfl hlocks dX12_signed_110
          refine lv_if_eq (tgt := 91) hx hb dX12_signed_71 (of_decide_eq_true rfl) (fun c_27 => ?_) (fun c_27 => ?_)
          · have hfn := (if_pos c_27).symm.trans hfn
            exact jp_21 (o_12.2.2.2.1, o_12.2.2.2.2) H locs ls hfn hP hD hS (lv_sub hl [0, 1, 2] rfl)
          have hfn := (if_neg c_27).symm.trans hfn
          refine lv_lload hx hb dX12_signed_74 (lv_at hl 0 rfl) ?_
          refine lv_lload_n hx hb dX12_signed_76 rfl (lv_at hl 3 rfl) ?_
          refine lv_lload_n hx hb dX12_signed_77 rfl (lv_at hl 4 rfl) ?_
          obtain ⟨o_28, hqo_28, hfn⟩ := zb_s hfn
          refine zcSb (rest := []) (pc' := 81) (ws' := [(h0, .inr (12, zO a0 (zI (zI (zI (zI b0 6 o_12.2.1) 7 o_12.2.2.1) 8 o_12.2.2.2.1) 9 o_12.2.2.2.2) c0)), zVi (a0 0) k1 1200 f1]) hP hK hD hS hA ⟨hx, hb, hml, hown, hts⟩ (zf_X12_isIn l dC dI s_16 j1 j2 o_28 hqo_28 H.size) (va_cwS 3 hts gX12_signed_X12_isIn rfl rfl rfl zhd_X12_isIn.2 ⟨Nat.le_of_ble_eq_true rfl, Nat.le_of_ble_eq_true rfl⟩) [] rfl (of_decide_eq_true rfl) [] rfl rfl hl.1 rfl (Nat.le_of_ble_eq_true rfl) dX12_signed_78 ⟨Nat.le_of_ble_eq_true rfl, Nat.le_of_ble_eq_true rfl⟩ [] (of_decide_eq_true rfl) (of_decide_eq_true rfl) rfl rfl rfl (fun H locs hw_31n hP hD hS => ?_)
          refine lv_if_ne (tgt := 91) hx hb dX12_signed_81 (of_decide_eq_true rfl) (fun c_32 => ?_) (fun c_32 => ?_)
          · have hfn := (if_neg c_32).symm.trans hfn
            exact jp_21 (o_12.2.2.2.1, o_12.2.2.2.2) H locs ls hfn hP hD hS (lv_sub hl [0, 1, 2] rfl)
          have hfn := (if_pos c_32).symm.trans hfn
          refine lv_aload_n hx hb dX12_signed_84 rfl (lv_at hl 2 rfl) ?_
          refine lv_iconst (v := 2) hx hb dX12_signed_85 zci_2 ?_
          refine lv_iload hx hb dX12_signed_86 (lv_at hl 1 rfl) ?_
          obtain ⟨o_33, hqo_33, hfn⟩ := zb_s hfn
          refine zcVv (ci := 12) (rest := []) (pc' := 91) (ws' := [(h0, .inr (12, zO a0 (zI (zI (zI (zI b0 6 o_12.2.1) 7 o_12.2.2.1) 8 o_33.1) 9 o_33.2) c0)), zVi (a0 0) k1 1200 f1]) hP hK hD hS hA ⟨hx, hb, hml, hown, hts⟩ (zf_X12_faults l dC dI h0 2 o_6.2 a0 (zI (zI (zI (zI b0 6 o_12.2.1) 7 o_12.2.2.1) 8 o_12.2.2.2.1) 9 o_12.2.2.2.2) c0 o_33 hqo_33 H.size) (cwV 2 hts gX12_signed_X12_faults rfl rfl rfl zhd_X12_faults ⟨Nat.le_of_ble_eq_true rfl, Nat.le_of_ble_eq_true rfl⟩) [0] rfl (of_decide_eq_true rfl) [] rfl rfl rfl rfl hl.1 rfl (Nat.le_of_ble_eq_true rfl) dX12_signed_88 ⟨Nat.le_of_ble_eq_true rfl, Nat.le_of_ble_eq_true rfl⟩ [some 0] (of_decide_eq_true rfl) (of_decide_eq_true rfl) rfl rfl rfl (fun H locs hP hD hS => ?_)
          exact jp_21 (o_33.1, o_33.2) H locs ls hfn hP hD hS (lv_sub hl [0, 1, 2] rfl)
        refine lv_if_eq (tgt := 63) hx hb dX12_signed_54 (of_decide_eq_true rfl) (fun c_37 => ?_) (fun c_37 => ?_)
        · have hfn := (if_pos c_37).symm.trans hfn
          refine lv_lload hx hb dX12_signed_63 (lv_at hl 0 rfl) ?_
          exact jp_16 o_12.1 H locs ls hfn hP hD hS (lv_sub hl [1, 3, 4, 5] rfl)
        have hfn := (if_neg c_37).symm.trans hfn
        refine lv_lload hx hb dX12_signed_57 (lv_at hl 0 rfl) ?_
        refine lv_lneg hx hb dX12_signed_59 ?_
        refine lv_goto (tgt := 65) hx hb dX12_signed_60 (of_decide_eq_true rfl) ?_
        exact jp_16 (-o_12.1) H locs ls hfn hP hD hS (lv_sub hl [1, 3, 4, 5] rfl)
      refine lv_if_eq (tgt := 46) hx hb dX12_signed_33 (of_decide_eq_true rfl) (fun c_38 => ?_) (fun c_38 => ?_)
      · have hfn := (if_pos c_38).symm.trans hfn
        exact jp_11 o_6.2 H locs ls hfn hP hD hS (lv_sub hl [0, 1, 2, 3, 4] rfl)
      have hfn := (if_neg c_38).symm.trans hfn
      refine lv_aload_n hx hb dX12_signed_36 rfl (lv_at hl 2 rfl) ?_
      refine lv_dup hx hb dX12_signed_37 rfl ?_
      refine va_get (D := (dC, dI)) (ci := 12) (v := .int o_6.2) (C := RX12) (T := TX12) (N := 67) hx hb hts zn_X12_signed_X12 hown hK hP 0 rfl rfl 6 (of_decide_eq_true rfl) (hts (.fieldLink RX12 29 "ShortEnoughModel" "at" "I") zw_X12_signed_912) (fun _ h9 => h9) rfl dX12_signed_38 ?_
      refine lv_iconst (v := 1) hx hb dX12_signed_41 zci_1 ?_
      refine lv_iadd hx hb dX12_signed_42 ?_
      refine va_put (D := (dC, dI)) (ci := 12) (v := .int (o_6.2 + 1)) (ty := .int) (C := RX12) (T := TX12) (N := 67) hx hb hts zn_X12_signed_X12 tyX12 tyX12_ok nmX12 hown hK hP hD hS 0 rfl rfl 6 (of_decide_eq_true rfl) (hts (.fieldLink RX12 29 "ShortEnoughModel" "at" "I") zw_X12_signed_912) (fun _ h9 => h9) rfl (tyX12_ok 6 (of_decide_eq_true rfl)) rfl rfl (Nat.le_of_ble_eq_true rfl) dX12_signed_43 (fun H locs hP hD hS => ?_)
      have hP : va_P (dC, dI) vwCl [(h0, .inr (12, zO a0 (zI b0 6 (o_6.2 + 1)) c0)), zVi (a0 0) k1 1200 f1] H := hP
      have hD := zDW hD hP rfl
      exact jp_11 (o_6.2 + 1) H locs ls hfn hP hD hS (lv_sub hl [0, 1, 2, 3, 4] rfl)
    refine lv_icmp_ne (tgt := 22) hx hb dX12_signed_15 (of_decide_eq_true rfl) (fun c_39 => ?_) (fun c_39 => ?_)
    · have hfn := (if_neg c_39).symm.trans hfn
      refine lv_iconst (v := 0) hx hb dX12_signed_22 zci_0 ?_
      exact jp_10 0 H locs ls hfn hP hD hS (lv_sub hl [0, 1, 2] rfl)
    have hfn := (if_pos c_39).symm.trans hfn
    refine lv_iconst (v := 1) hx hb dX12_signed_18 zci_1 ?_
    refine lv_goto (tgt := 23) hx hb dX12_signed_19 (of_decide_eq_true rfl) ?_
    exact jp_10 1 H locs ls hfn hP hD hS (lv_sub hl [0, 1, 2] rfl)
  have hfn := (if_pos c_5).symm.trans hfn
  refine lv_lconst (v := 0) hx hb dX12_signed_7 (by decide +kernel) ?_
  have ho := Option.some.inj hfn
  subst ho
  exact zrl hx hb hr hK hP hD hS hQ rfl hlocks dX12_signed_8
theorem zn_X12_f_X12 : ∀ w ∈ wsX120, w ∈ wsX12_f := fun _ h => List.mem_cons_of_mem _ (List.mem_append_right _ h)
theorem zw_X12_f_915 : Cond.fieldLink RX12 44 "ShortEnoughModel" "in" "I" ∈ wsX12_f := List.mem_of_getElem? (i := 1) (by decide +kernel)
set_option maxHeartbeats 4000000 in
set_option maxRecDepth 100000 in
theorem zf_X12_f (l : Launch) (dC : Nat → ClassId) (dI : Nat → Nat → Nat) (h0 : Nat) (p1 : Int32) (a0 : Nat → Nat) (b0 : Nat → Int32) (c0 : Nat → Int64) (o : Int32) (hfn : fn_X12_f p1 (b0 11) = some o) (sz : Nat) : zMi l yX12_f wsX12_f ({ frames := 0, cells := 0, slots := 0, locals := 0 }) (dC, dI) vwCl [.ref h0, .int p1] [(h0, .inr (12, zO a0 b0 c0))] [] (fun r _ => r = o) [(h0, .inr (12, zO a0 b0 c0))] [] sz := by
  refine zgoi (cc := cX12_f) (maxL := 2) (ret := (some .int)) (C0 := RX12) (lv0 := [(0, .ref h0), (1, .int p1)]) zpl_X12 rfl rfl rfl (Nat.le_of_ble_eq_true rfl) ?_
  intro p e s m below meth c A ls Q hx hb hr hts hown hlocks hml hP hK hD hA hS hl hQ
  unfold fn_X12_f at hfn
  refine lv_iconst (v := 4) hx hb dX12_f_0 zci_4 ?_
  refine lv_aload_n hx hb dX12_f_1 rfl (lv_at hl 0 rfl) ?_
  refine va_get (D := (dC, dI)) (ci := 12) (v := .int (b0 11)) (C := RX12) (T := TX12) (N := 67) hx hb hts zn_X12_f_X12 hown hK hP 0 rfl rfl 11 (of_decide_eq_true rfl) (hts (.fieldLink RX12 44 "ShortEnoughModel" "in" "I") zw_X12_f_915) (fun _ h9 => h9) rfl dX12_f_2 ?_
  refine lv_imul hx hb dX12_f_5 ?_
  refine lv_iload_n hx hb dX12_f_6 rfl (lv_at hl 1 rfl) ?_
  refine lv_iadd hx hb dX12_f_7 ?_
  have ho := Option.some.inj hfn
  subst ho
  exact zri hx hb hr hK hP hD hS hQ rfl hlocks dX12_f_8
theorem zn_X12_n_X12 : ∀ w ∈ wsX120, w ∈ wsX12_n := fun _ h => List.mem_cons_of_mem _ (List.mem_append_right _ h)
theorem zw_X12_n_917 : Cond.fieldLink RX12 44 "ShortEnoughModel" "in" "I" ∈ wsX12_n := List.mem_of_getElem? (i := 1) (by decide +kernel)
set_option maxHeartbeats 4000000 in
set_option maxRecDepth 100000 in
theorem zf_X12_n (l : Launch) (dC : Nat → ClassId) (dI : Nat → Nat → Nat) (h0 : Nat) (p1 : Int32) (a0 : Nat → Nat) (b0 : Nat → Int32) (c0 : Nat → Int64) (o : Int32) (hfn : fn_X12_n p1 (b0 11) = some o) (sz : Nat) : zMi l yX12_n wsX12_n ({ frames := 0, cells := 0, slots := 0, locals := 0 }) (dC, dI) vwCl [.ref h0, .int p1] [(h0, .inr (12, zO a0 b0 c0))] [] (fun r _ => r = o) [(h0, .inr (12, zO a0 b0 c0))] [] sz := by
  refine zgoi (cc := cX12_n) (maxL := 2) (ret := (some .int)) (C0 := RX12) (lv0 := [(0, .ref h0), (1, .int p1)]) zpl_X12 rfl rfl rfl (Nat.le_of_ble_eq_true rfl) ?_
  intro p e s m below meth c A ls Q hx hb hr hts hown hlocks hml hP hK hD hA hS hl hQ
  unfold fn_X12_n at hfn
  refine lv_bipush (v := 14) hx hb dX12_n_0 zcb_14 ?_
  refine lv_aload_n hx hb dX12_n_2 rfl (lv_at hl 0 rfl) ?_
  refine va_get (D := (dC, dI)) (ci := 12) (v := .int (b0 11)) (C := RX12) (T := TX12) (N := 67) hx hb hts zn_X12_n_X12 hown hK hP 0 rfl rfl 11 (of_decide_eq_true rfl) (hts (.fieldLink RX12 44 "ShortEnoughModel" "in" "I") zw_X12_n_917) (fun _ h9 => h9) rfl dX12_n_3 ?_
  refine lv_imul hx hb dX12_n_6 ?_
  refine lv_iload_n hx hb dX12_n_7 rfl (lv_at hl 1 rfl) ?_
  refine lv_iadd hx hb dX12_n_8 ?_
  have ho := Option.some.inj hfn
  subst ho
  exact zri hx hb hr hK hP hD hS hQ rfl hlocks dX12_n_9
theorem zn_X12_formatNamed_X12 : ∀ w ∈ wsX120, w ∈ wsX12_formatNamed := fun _ h => List.mem_cons_of_mem _ (List.mem_append_right _ h)
theorem zw_X12_formatNamed_919 : Cond.fieldLink RX12 47 "ShortEnoughModel" "formats" "[I" ∈ wsX12_formatNamed := List.mem_of_getElem? (i := 1) (by decide +kernel)
theorem zw_X12_formatNamed_920 : Cond.fieldLink RX12 44 "ShortEnoughModel" "in" "I" ∈ wsX12_formatNamed := List.mem_of_getElem? (i := 2) (by decide +kernel)
theorem zw_X12_formatNamed_921 : Cond.fieldLink RX12 50 "ShortEnoughModel" "formatName" "[I" ∈ wsX12_formatNamed := List.mem_of_getElem? (i := 3) (by decide +kernel)
set_option maxHeartbeats 4000000 in
set_option maxRecDepth 100000 in
theorem zf_X12_formatNamed (l : Launch) (dC : Nat → ClassId) (dI : Nat → Nat → Nat) (h0 : Nat) (p1 : Int32) (a0 : Nat → Nat) (b0 : Nat → Int32) (c0 : Nat → Int64) (k1 : Nat) (f1 : Nat → Int32) (k2 : Nat) (f2 : Nat → Int32) (o : Int32) (hfn : fn_X12_formatNamed p1 (b0 11) f1 f2 = some o) (sz : Nat) : zMi l yX12_formatNamed wsX12_formatNamed ({ frames := 1, cells := 0, slots := 0, locals := 21 }) (dC, dI) vwCl [.ref h0, .int p1] [(h0, .inr (12, zO a0 b0 c0)), zVi (a0 12) k1 2 f1, zVi (a0 13) k2 8 f2] [(k1, .int), (k2, .int)] (fun r _ => r = o) [(h0, .inr (12, zO a0 b0 c0)), zVi (a0 12) k1 2 f1, zVi (a0 13) k2 8 f2] [(k1, .int), (k2, .int)] sz := by
  refine zgoi (cc := cX12_formatNamed) (maxL := 3) (ret := (some .int)) (C0 := RX12) (lv0 := [(0, .ref h0), (1, .int p1)]) zpl_X12 rfl rfl rfl (Nat.le_of_ble_eq_true rfl) ?_
  intro p e s m below meth c A ls Q hx hb hr hts hown hlocks hml hP hK hD hA hS hl hQ
  unfold fn_X12_formatNamed at hfn
  refine lv_iconst (v := 0) hx hb dX12_formatNamed_0 zci_0 ?_
  refine lv_istore_n (lv' := [(2, .int 0), (0, .ref h0), (1, .int p1)]) hx hb dX12_formatNamed_1 rfl hl (of_decide_eq_true rfl) rfl (fun ls hl => ?_)
  obtain ⟨bd_1, ebd_1, hfn⟩ := zl_g hfn
  have lp_1 : ∀ (n : Nat) (s_1 : Int32) (H : Heap) (locs : List Loc) (ls : Array Slot), zl bd_1 n s_1 = some o → va_P (dC, dI) vwCl [(h0, .inr (12, zO a0 b0 c0)), zVi (a0 12) k1 2 f1, zVi (a0 13) k2 8 f2] H → va_D A [(h0, .inr (12, zO a0 b0 c0)), zVi (a0 12) k1 2 f1, zVi (a0 13) k2 8 f2] → va_S A s.heap H locs → lv_has ls 3 [(2, .int s_1), (0, .ref h0), (1, .int p1)] → W p l e (headSpec wsX12_formatNamed ({ frames := 1, cells := 0, slots := 0, locals := 21 })).room s m ([.ref h0, .int p1] : List Value).toArray below meth c H locs 0 0 Q (F0 m 2 ls []) := by
    intro n
    induction n with
    | zero => exact fun _ _ _ _ hfn => (zl_0 hfn).elim
    | succ n ih_1 =>
      intro s_1 H locs ls hfn hP hD hS hl
      have hfn := zl_s ebd_1 hfn
      refine lv_iload_n hx hb dX12_formatNamed_2 rfl (lv_at hl 0 rfl) ?_
      refine lv_aload_n hx hb dX12_formatNamed_3 rfl (lv_at hl 1 rfl) ?_
      refine va_get (D := (dC, dI)) (ci := 12) (v := .ref (a0 12)) (C := RX12) (T := TX12) (N := 67) hx hb hts zn_X12_formatNamed_X12 hown hK hP 0 rfl rfl 12 (of_decide_eq_true rfl) (hts (.fieldLink RX12 47 "ShortEnoughModel" "formats" "[I") zw_X12_formatNamed_919) (fun _ h9 => h9) rfl dX12_formatNamed_4 ?_
      refine lv_aload_n hx hb dX12_formatNamed_7 rfl (lv_at hl 1 rfl) ?_
      refine va_get (D := (dC, dI)) (ci := 12) (v := .int (b0 11)) (C := RX12) (T := TX12) (N := 67) hx hb hts zn_X12_formatNamed_X12 hown hK hP 0 rfl rfl 11 (of_decide_eq_true rfl) (hts (.fieldLink RX12 44 "ShortEnoughModel" "in" "I") zw_X12_formatNamed_920) (fun _ h9 => h9) rfl dX12_formatNamed_8 ?_
      obtain ⟨h_2, hfn⟩ := zg_s hfn
      refine va_iald hx hb hK hP 1 0 rfl rfl h_2 dX12_formatNamed_11 ?_
      refine lv_icmp_ge (tgt := 37) hx hb dX12_formatNamed_12 (of_decide_eq_true rfl) (fun c_3 => ?_) (fun c_3 => ?_)
      · have hfn := (if_pos c_3).symm.trans hfn
        refine lv_iconst (v := (-1)) hx hb dX12_formatNamed_37 zci_m1 ?_
        have ho := Option.some.inj hfn
        subst ho
        exact zri hx hb hr hK hP hD hS hQ rfl hlocks dX12_formatNamed_38
      have hfn := (if_neg c_3).symm.trans hfn
      refine lv_aload_n hx hb dX12_formatNamed_15 rfl (lv_at hl 1 rfl) ?_
      refine va_get (D := (dC, dI)) (ci := 12) (v := .ref (a0 13)) (C := RX12) (T := TX12) (N := 67) hx hb hts zn_X12_formatNamed_X12 hown hK hP 0 rfl rfl 13 (of_decide_eq_true rfl) (hts (.fieldLink RX12 50 "ShortEnoughModel" "formatName" "[I") zw_X12_formatNamed_921) (fun _ h9 => h9) rfl dX12_formatNamed_16 ?_
      refine lv_aload_n hx hb dX12_formatNamed_19 rfl (lv_at hl 1 rfl) ?_
      refine lv_iload_n hx hb dX12_formatNamed_20 rfl (lv_at hl 0 rfl) ?_
      obtain ⟨o_4, hqo_4, hfn⟩ := zb_s hfn
      refine zcVi (ci := 12) (rest := [.ref (a0 13)]) (pc' := 24) (ws' := [(h0, .inr (12, zO a0 b0 c0)), zVi (a0 12) k1 2 f1, zVi (a0 13) k2 8 f2]) hP hK hD hS hA ⟨hx, hb, hml, hown, hts⟩ (zf_X12_f l dC dI h0 s_1 a0 b0 c0 o_4 hqo_4 H.size) (cwV 1 hts gX12_formatNamed_X12_f rfl rfl rfl zhd_X12_f ⟨Nat.le_of_ble_eq_true rfl, Nat.le_of_ble_eq_true rfl⟩) [0] rfl (of_decide_eq_true rfl) [] rfl rfl rfl rfl hl.1 rfl (Nat.le_of_ble_eq_true rfl) dX12_formatNamed_21 ⟨Nat.le_of_ble_eq_true rfl, Nat.le_of_ble_eq_true rfl⟩ [some 0] (of_decide_eq_true rfl) (of_decide_eq_true rfl) rfl rfl rfl (fun H locs hP hD hS => ?_)
      obtain ⟨h_8, hfn⟩ := zg_s hfn
      refine va_iald hx hb hK hP 2 1 rfl rfl h_8 dX12_formatNamed_24 ?_
      refine lv_iload_n hx hb dX12_formatNamed_25 rfl (lv_at hl 2 rfl) ?_
      refine lv_icmp_ne (tgt := 31) hx hb dX12_formatNamed_26 (of_decide_eq_true rfl) (fun c_9 => ?_) (fun c_9 => ?_)
      · have hfn := (if_neg c_9).symm.trans hfn
        refine lv_iinc (v := (s_1 + 1)) (lv' := [(2, .int (s_1 + 1)), (0, .ref h0), (1, .int p1)]) hx hb dX12_formatNamed_31 hl (k := 0) rfl rfl (of_decide_eq_true rfl) rfl (fun ls hl => ?_)
        refine lv_goto (tgt := 2) hx hb dX12_formatNamed_34 (of_decide_eq_true rfl) ?_
        exact ih_1 (s_1 + 1) H locs ls hfn hP hD hS (lv_sub hl [0, 1, 2] rfl)
      have hfn := (if_pos c_9).symm.trans hfn
      refine lv_iload_n hx hb dX12_formatNamed_29 rfl (lv_at hl 0 rfl) ?_
      have ho := Option.some.inj hfn
      subst ho
      exact zri hx hb hr hK hP hD hS hQ rfl hlocks dX12_formatNamed_30
  exact lp_1 _ 0 s.heap [] ls hfn hP hD hS (lv_sub hl [0, 1, 2] rfl)
theorem zn_X12_numberNamed_X12 : ∀ w ∈ wsX120, w ∈ wsX12_numberNamed := fun _ h => List.mem_cons_of_mem _ (List.mem_append_right _ h)
theorem zw_X12_numberNamed_923 : Cond.fieldLink RX12 62 "ShortEnoughModel" "numbers" "[I" ∈ wsX12_numberNamed := List.mem_of_getElem? (i := 1) (by decide +kernel)
theorem zw_X12_numberNamed_924 : Cond.fieldLink RX12 44 "ShortEnoughModel" "in" "I" ∈ wsX12_numberNamed := List.mem_of_getElem? (i := 2) (by decide +kernel)
theorem zw_X12_numberNamed_925 : Cond.fieldLink RX12 65 "ShortEnoughModel" "numberName" "[I" ∈ wsX12_numberNamed := List.mem_of_getElem? (i := 3) (by decide +kernel)
set_option maxHeartbeats 4000000 in
set_option maxRecDepth 100000 in
theorem zf_X12_numberNamed (l : Launch) (dC : Nat → ClassId) (dI : Nat → Nat → Nat) (h0 : Nat) (p1 : Int32) (a0 : Nat → Nat) (b0 : Nat → Int32) (c0 : Nat → Int64) (k1 : Nat) (f1 : Nat → Int32) (k2 : Nat) (f2 : Nat → Int32) (o : Int32) (hfn : fn_X12_numberNamed p1 (b0 11) f1 f2 = some o) (sz : Nat) : zMi l yX12_numberNamed wsX12_numberNamed ({ frames := 1, cells := 0, slots := 0, locals := 21 }) (dC, dI) vwCl [.ref h0, .int p1] [(h0, .inr (12, zO a0 b0 c0)), zVi (a0 17) k1 2 f1, zVi (a0 18) k2 28 f2] [(k1, .int), (k2, .int)] (fun r _ => r = o) [(h0, .inr (12, zO a0 b0 c0)), zVi (a0 17) k1 2 f1, zVi (a0 18) k2 28 f2] [(k1, .int), (k2, .int)] sz := by
  refine zgoi (cc := cX12_numberNamed) (maxL := 3) (ret := (some .int)) (C0 := RX12) (lv0 := [(0, .ref h0), (1, .int p1)]) zpl_X12 rfl rfl rfl (Nat.le_of_ble_eq_true rfl) ?_
  intro p e s m below meth c A ls Q hx hb hr hts hown hlocks hml hP hK hD hA hS hl hQ
  unfold fn_X12_numberNamed at hfn
  refine lv_iconst (v := 0) hx hb dX12_numberNamed_0 zci_0 ?_
  refine lv_istore_n (lv' := [(2, .int 0), (0, .ref h0), (1, .int p1)]) hx hb dX12_numberNamed_1 rfl hl (of_decide_eq_true rfl) rfl (fun ls hl => ?_)
  obtain ⟨bd_1, ebd_1, hfn⟩ := zl_g hfn
  have lp_1 : ∀ (n : Nat) (s_1 : Int32) (H : Heap) (locs : List Loc) (ls : Array Slot), zl bd_1 n s_1 = some o → va_P (dC, dI) vwCl [(h0, .inr (12, zO a0 b0 c0)), zVi (a0 17) k1 2 f1, zVi (a0 18) k2 28 f2] H → va_D A [(h0, .inr (12, zO a0 b0 c0)), zVi (a0 17) k1 2 f1, zVi (a0 18) k2 28 f2] → va_S A s.heap H locs → lv_has ls 3 [(2, .int s_1), (0, .ref h0), (1, .int p1)] → W p l e (headSpec wsX12_numberNamed ({ frames := 1, cells := 0, slots := 0, locals := 21 })).room s m ([.ref h0, .int p1] : List Value).toArray below meth c H locs 0 0 Q (F0 m 2 ls []) := by
    intro n
    induction n with
    | zero => exact fun _ _ _ _ hfn => (zl_0 hfn).elim
    | succ n ih_1 =>
      intro s_1 H locs ls hfn hP hD hS hl
      have hfn := zl_s ebd_1 hfn
      refine lv_iload_n hx hb dX12_numberNamed_2 rfl (lv_at hl 0 rfl) ?_
      refine lv_aload_n hx hb dX12_numberNamed_3 rfl (lv_at hl 1 rfl) ?_
      refine va_get (D := (dC, dI)) (ci := 12) (v := .ref (a0 17)) (C := RX12) (T := TX12) (N := 67) hx hb hts zn_X12_numberNamed_X12 hown hK hP 0 rfl rfl 17 (of_decide_eq_true rfl) (hts (.fieldLink RX12 62 "ShortEnoughModel" "numbers" "[I") zw_X12_numberNamed_923) (fun _ h9 => h9) rfl dX12_numberNamed_4 ?_
      refine lv_aload_n hx hb dX12_numberNamed_7 rfl (lv_at hl 1 rfl) ?_
      refine va_get (D := (dC, dI)) (ci := 12) (v := .int (b0 11)) (C := RX12) (T := TX12) (N := 67) hx hb hts zn_X12_numberNamed_X12 hown hK hP 0 rfl rfl 11 (of_decide_eq_true rfl) (hts (.fieldLink RX12 44 "ShortEnoughModel" "in" "I") zw_X12_numberNamed_924) (fun _ h9 => h9) rfl dX12_numberNamed_8 ?_
      obtain ⟨h_2, hfn⟩ := zg_s hfn
      refine va_iald hx hb hK hP 1 0 rfl rfl h_2 dX12_numberNamed_11 ?_
      refine lv_icmp_ge (tgt := 37) hx hb dX12_numberNamed_12 (of_decide_eq_true rfl) (fun c_3 => ?_) (fun c_3 => ?_)
      · have hfn := (if_pos c_3).symm.trans hfn
        refine lv_iconst (v := (-1)) hx hb dX12_numberNamed_37 zci_m1 ?_
        have ho := Option.some.inj hfn
        subst ho
        exact zri hx hb hr hK hP hD hS hQ rfl hlocks dX12_numberNamed_38
      have hfn := (if_neg c_3).symm.trans hfn
      refine lv_aload_n hx hb dX12_numberNamed_15 rfl (lv_at hl 1 rfl) ?_
      refine va_get (D := (dC, dI)) (ci := 12) (v := .ref (a0 18)) (C := RX12) (T := TX12) (N := 67) hx hb hts zn_X12_numberNamed_X12 hown hK hP 0 rfl rfl 18 (of_decide_eq_true rfl) (hts (.fieldLink RX12 65 "ShortEnoughModel" "numberName" "[I") zw_X12_numberNamed_925) (fun _ h9 => h9) rfl dX12_numberNamed_16 ?_
      refine lv_aload_n hx hb dX12_numberNamed_19 rfl (lv_at hl 1 rfl) ?_
      refine lv_iload_n hx hb dX12_numberNamed_20 rfl (lv_at hl 0 rfl) ?_
      obtain ⟨o_4, hqo_4, hfn⟩ := zb_s hfn
      refine zcVi (ci := 12) (rest := [.ref (a0 18)]) (pc' := 24) (ws' := [(h0, .inr (12, zO a0 b0 c0)), zVi (a0 17) k1 2 f1, zVi (a0 18) k2 28 f2]) hP hK hD hS hA ⟨hx, hb, hml, hown, hts⟩ (zf_X12_n l dC dI h0 s_1 a0 b0 c0 o_4 hqo_4 H.size) (cwV 1 hts gX12_numberNamed_X12_n rfl rfl rfl zhd_X12_n ⟨Nat.le_of_ble_eq_true rfl, Nat.le_of_ble_eq_true rfl⟩) [0] rfl (of_decide_eq_true rfl) [] rfl rfl rfl rfl hl.1 rfl (Nat.le_of_ble_eq_true rfl) dX12_numberNamed_21 ⟨Nat.le_of_ble_eq_true rfl, Nat.le_of_ble_eq_true rfl⟩ [some 0] (of_decide_eq_true rfl) (of_decide_eq_true rfl) rfl rfl rfl (fun H locs hP hD hS => ?_)
      obtain ⟨h_8, hfn⟩ := zg_s hfn
      refine va_iald hx hb hK hP 2 1 rfl rfl h_8 dX12_numberNamed_24 ?_
      refine lv_iload_n hx hb dX12_numberNamed_25 rfl (lv_at hl 2 rfl) ?_
      refine lv_icmp_ne (tgt := 31) hx hb dX12_numberNamed_26 (of_decide_eq_true rfl) (fun c_9 => ?_) (fun c_9 => ?_)
      · have hfn := (if_neg c_9).symm.trans hfn
        refine lv_iinc (v := (s_1 + 1)) (lv' := [(2, .int (s_1 + 1)), (0, .ref h0), (1, .int p1)]) hx hb dX12_numberNamed_31 hl (k := 0) rfl rfl (of_decide_eq_true rfl) rfl (fun ls hl => ?_)
        refine lv_goto (tgt := 2) hx hb dX12_numberNamed_34 (of_decide_eq_true rfl) ?_
        exact ih_1 (s_1 + 1) H locs ls hfn hP hD hS (lv_sub hl [0, 1, 2] rfl)
      have hfn := (if_pos c_9).symm.trans hfn
      refine lv_iload_n hx hb dX12_numberNamed_29 rfl (lv_at hl 0 rfl) ?_
      have ho := Option.some.inj hfn
      subst ho
      exact zri hx hb hr hK hP hD hS hQ rfl hlocks dX12_numberNamed_30
  exact lp_1 _ 0 s.heap [] ls hfn hP hD hS (lv_sub hl [0, 1, 2] rfl)
theorem zn_X12_newName_X12 : ∀ w ∈ wsX120, w ∈ wsX12_newName := fun _ h => List.mem_cons_of_mem _ (List.mem_append_right _ h)
theorem zw_X12_newName_927 : Cond.fieldLink RX12 32 "ShortEnoughModel" "begun" "I" ∈ wsX12_newName := List.mem_of_getElem? (i := 1) (by decide +kernel)
set_option maxHeartbeats 4000000 in
set_option maxRecDepth 100000 in
theorem zf_X12_newName (l : Launch) (dC : Nat → ClassId) (dI : Nat → Nat → Nat) (h0 : Nat) (a0 : Nat → Nat) (b0 : Nat → Int32) (c0 : Nat → Int64) (k1 : Nat) (f1 : Nat → Int32) (k2 : Nat) (f2 : Nat → Int32) (k3 : Nat) (f3 : Nat → Int32) (k4 : Nat) (f4 : Nat → Int32) (k5 : Nat) (f5 : Nat → Int32) (k6 : Nat) (f6 : Nat → Int32) (o : Int32 × Int32 × Int32 × Int32 × Int32) (hfn : fn_X12_newName (b0 5) (b0 6) (b0 7) (b0 8) (b0 9) (b0 11) f1 f2 f3 f4 f5 f6 = some o) (sz : Nat) : zMi l yX12_newName wsX12_newName ({ frames := 4, cells := 0, slots := 0, locals := 84 }) (dC, dI) vwCl [.ref h0] [(h0, .inr (12, zO a0 b0 c0)), zVi (a0 0) k1 1200 f1, zVi (a0 10) k2 71 f2, zVi (a0 12) k3 2 f3, zVi (a0 13) k4 8 f4, zVi (a0 17) k5 2 f5, zVi (a0 18) k6 28 f6] [(k1, .int), (k2, .int), (k3, .int), (k4, .int), (k5, .int), (k6, .int)] (fun r _ => r = o.1) [(h0, .inr (12, zO a0 (zI (zI (zI (zI b0 6 o.2.1) 7 o.2.2.1) 8 o.2.2.2.1) 9 o.2.2.2.2) c0)), zVi (a0 0) k1 1200 f1, zVi (a0 10) k2 71 f2, zVi (a0 12) k3 2 f3, zVi (a0 13) k4 8 f4, zVi (a0 17) k5 2 f5, zVi (a0 18) k6 28 f6] [(k1, .int), (k2, .int), (k3, .int), (k4, .int), (k5, .int), (k6, .int)] sz := by
  refine zgoi (cc := cX12_newName) (maxL := 2) (ret := (some .int)) (C0 := RX12) (lv0 := [(0, .ref h0)]) zpl_X12 rfl rfl rfl (Nat.le_of_ble_eq_true rfl) ?_
  intro p e s m below meth c A ls Q hx hb hr hts hown hlocks hml hP hK hD hA hS hl hQ
  unfold fn_X12_newName at hfn
  refine lv_aload_n hx hb dX12_newName_0 rfl (lv_at hl 0 rfl) ?_
  obtain ⟨o_1, hqo_1, hfn⟩ := zb_s hfn
  refine zcVi (ci := 12) (rest := []) (pc' := 4) (ws' := [(h0, .inr (12, zO a0 (zI (zI (zI (zI b0 6 o_1.2.1) 7 o_1.2.2.1) 8 o_1.2.2.2.1) 9 o_1.2.2.2.2) c0)), zVi (a0 0) k1 1200 f1, zVi (a0 10) k2 71 f2, zVi (a0 12) k3 2 f3, zVi (a0 13) k4 8 f4, zVi (a0 17) k5 2 f5, zVi (a0 18) k6 28 f6]) hP hK hD hS hA ⟨hx, hb, hml, hown, hts⟩ (zf_X12_name l dC dI h0 a0 b0 c0 k1 f1 k2 f2 o_1 hqo_1 s.heap.size) (cwV 0 hts gX12_newName_X12_name rfl rfl rfl zhd_X12_name ⟨Nat.le_of_ble_eq_true rfl, Nat.le_of_ble_eq_true rfl⟩) [0, 1, 2] rfl (of_decide_eq_true rfl) [0, 1] rfl rfl rfl rfl hl.1 rfl (Nat.le_of_ble_eq_true rfl) dX12_newName_1 ⟨Nat.le_of_ble_eq_true rfl, Nat.le_of_ble_eq_true rfl⟩ [some 0, some 1, some 2] (of_decide_eq_true rfl) (of_decide_eq_true rfl) rfl rfl rfl (fun H locs hP hD hS => ?_)
  refine lv_istore_n (lv' := [(1, .int o_1.1), (0, .ref h0)]) hx hb dX12_newName_4 rfl hl (of_decide_eq_true rfl) rfl (fun ls hl => ?_)
  refine lv_aload_n hx hb dX12_newName_5 rfl (lv_at hl 1 rfl) ?_
  obtain ⟨o_5, hqo_5, hfn⟩ := zb_s hfn
  refine zcVb (ci := 12) (rest := []) (pc' := 9) (ws' := [(h0, .inr (12, zO a0 (zI (zI (zI (zI b0 6 o_1.2.1) 7 o_1.2.2.1) 8 o_1.2.2.2.1) 9 o_1.2.2.2.2) c0)), zVi (a0 0) k1 1200 f1, zVi (a0 10) k2 71 f2, zVi (a0 12) k3 2 f3, zVi (a0 13) k4 8 f4, zVi (a0 17) k5 2 f5, zVi (a0 18) k6 28 f6]) hP hK hD hS hA ⟨hx, hb, hml, hown, hts⟩ (zf_X12_goesWell l dC dI h0 a0 (zI (zI (zI (zI b0 6 o_1.2.1) 7 o_1.2.2.1) 8 o_1.2.2.2.1) 9 o_1.2.2.2.2) c0 o_5 hqo_5 H.size) (cwV 0 hts gX12_newName_X12_goesWell rfl rfl rfl zhd_X12_goesWell ⟨Nat.le_of_ble_eq_true rfl, Nat.le_of_ble_eq_true rfl⟩) [0] rfl (of_decide_eq_true rfl) [] rfl rfl rfl rfl hl.1 rfl (Nat.le_of_ble_eq_true rfl) dX12_newName_6 ⟨Nat.le_of_ble_eq_true rfl, Nat.le_of_ble_eq_true rfl⟩ [some 0] (of_decide_eq_true rfl) (of_decide_eq_true rfl) rfl rfl rfl (fun H locs hw_8n hP hD hS => ?_)
  refine lv_if_eq (tgt := 39) hx hb dX12_newName_9 (of_decide_eq_true rfl) (fun c_9 => ?_) (fun c_9 => ?_)
  · have hfn := (if_pos c_9).symm.trans hfn
    refine lv_iload_n hx hb dX12_newName_39 rfl (lv_at hl 0 rfl) ?_
    have ho := Option.some.inj hfn
    subst ho
    exact zri hx hb hr hK hP hD hS hQ rfl hlocks dX12_newName_40
  have hfn := (if_neg c_9).symm.trans hfn
  refine lv_aload_n hx hb dX12_newName_12 rfl (lv_at hl 1 rfl) ?_
  refine lv_iload_n hx hb dX12_newName_13 rfl (lv_at hl 0 rfl) ?_
  obtain ⟨o_10, hqo_10, hfn⟩ := zb_s hfn
  refine zcVi (ci := 12) (rest := []) (pc' := 17) (ws' := [(h0, .inr (12, zO a0 (zI (zI (zI (zI b0 6 o_1.2.1) 7 o_1.2.2.1) 8 o_1.2.2.2.1) 9 o_1.2.2.2.2) c0)), zVi (a0 0) k1 1200 f1, zVi (a0 10) k2 71 f2, zVi (a0 12) k3 2 f3, zVi (a0 13) k4 8 f4, zVi (a0 17) k5 2 f5, zVi (a0 18) k6 28 f6]) hP hK hD hS hA ⟨hx, hb, hml, hown, hts⟩ (zf_X12_formatNamed l dC dI h0 o_1.1 a0 (zI (zI (zI (zI b0 6 o_1.2.1) 7 o_1.2.2.1) 8 o_1.2.2.2.1) 9 o_1.2.2.2.2) c0 k3 f3 k4 f4 o_10 hqo_10 H.size) (cwV 1 hts gX12_newName_X12_formatNamed rfl rfl rfl zhd_X12_formatNamed ⟨Nat.le_of_ble_eq_true rfl, Nat.le_of_ble_eq_true rfl⟩) [0, 3, 4] rfl (of_decide_eq_true rfl) [2, 3] rfl rfl rfl rfl hl.1 rfl (Nat.le_of_ble_eq_true rfl) dX12_newName_14 ⟨Nat.le_of_ble_eq_true rfl, Nat.le_of_ble_eq_true rfl⟩ [some 0, none, none, some 1, some 2] (of_decide_eq_true rfl) (of_decide_eq_true rfl) rfl rfl rfl (fun H locs hP hD hS => ?_)
  refine lv_iconst (v := (-1)) hx hb dX12_newName_17 zci_m1 ?_
  refine lv_icmp_ne (tgt := 30) hx hb dX12_newName_18 (of_decide_eq_true rfl) (fun c_14 => ?_) (fun c_14 => ?_)
  · have hfn := (if_neg c_14).symm.trans hfn
    refine lv_aload_n hx hb dX12_newName_30 rfl (lv_at hl 1 rfl) ?_
    refine lv_iconst (v := 3) hx hb dX12_newName_31 zci_3 ?_
    refine lv_aload_n hx hb dX12_newName_32 rfl (lv_at hl 1 rfl) ?_
    refine va_get (D := (dC, dI)) (ci := 12) (v := .int o_1.2.2.1) (C := RX12) (T := TX12) (N := 67) hx hb hts zn_X12_newName_X12 hown hK hP 0 rfl rfl 7 (of_decide_eq_true rfl) (hts (.fieldLink RX12 32 "ShortEnoughModel" "begun" "I") zw_X12_newName_927) (fun _ h9 => h9) rfl dX12_newName_33 ?_
    obtain ⟨o_15, hqo_15, hfn⟩ := zb_s hfn
    refine zcVv (ci := 12) (rest := []) (pc' := 39) (ws' := [(h0, .inr (12, zO a0 (zI (zI (zI (zI b0 6 o_1.2.1) 7 o_1.2.2.1) 8 o_15.1) 9 o_15.2) c0)), zVi (a0 0) k1 1200 f1, zVi (a0 10) k2 71 f2, zVi (a0 12) k3 2 f3, zVi (a0 13) k4 8 f4, zVi (a0 17) k5 2 f5, zVi (a0 18) k6 28 f6]) hP hK hD hS hA ⟨hx, hb, hml, hown, hts⟩ (zf_X12_faults l dC dI h0 3 o_1.2.2.1 a0 (zI (zI (zI (zI b0 6 o_1.2.1) 7 o_1.2.2.1) 8 o_1.2.2.2.1) 9 o_1.2.2.2.2) c0 o_15 hqo_15 H.size) (cwV 2 hts gX12_newName_X12_faults rfl rfl rfl zhd_X12_faults ⟨Nat.le_of_ble_eq_true rfl, Nat.le_of_ble_eq_true rfl⟩) [0] rfl (of_decide_eq_true rfl) [] rfl rfl rfl rfl hl.1 rfl (Nat.le_of_ble_eq_true rfl) dX12_newName_36 ⟨Nat.le_of_ble_eq_true rfl, Nat.le_of_ble_eq_true rfl⟩ [some 0] (of_decide_eq_true rfl) (of_decide_eq_true rfl) rfl rfl rfl (fun H locs hP hD hS => ?_)
    refine lv_iload_n hx hb dX12_newName_39 rfl (lv_at hl 0 rfl) ?_
    have ho := Option.some.inj hfn
    subst ho
    exact zri hx hb hr hK hP hD hS hQ rfl hlocks dX12_newName_40
  have hfn := (if_pos c_14).symm.trans hfn
  refine lv_aload_n hx hb dX12_newName_21 rfl (lv_at hl 1 rfl) ?_
  refine lv_iload_n hx hb dX12_newName_22 rfl (lv_at hl 0 rfl) ?_
  obtain ⟨o_19, hqo_19, hfn⟩ := zb_s hfn
  refine zcVi (ci := 12) (rest := []) (pc' := 26) (ws' := [(h0, .inr (12, zO a0 (zI (zI (zI (zI b0 6 o_1.2.1) 7 o_1.2.2.1) 8 o_1.2.2.2.1) 9 o_1.2.2.2.2) c0)), zVi (a0 0) k1 1200 f1, zVi (a0 10) k2 71 f2, zVi (a0 12) k3 2 f3, zVi (a0 13) k4 8 f4, zVi (a0 17) k5 2 f5, zVi (a0 18) k6 28 f6]) hP hK hD hS hA ⟨hx, hb, hml, hown, hts⟩ (zf_X12_numberNamed l dC dI h0 o_1.1 a0 (zI (zI (zI (zI b0 6 o_1.2.1) 7 o_1.2.2.1) 8 o_1.2.2.2.1) 9 o_1.2.2.2.2) c0 k5 f5 k6 f6 o_19 hqo_19 H.size) (cwV 1 hts gX12_newName_X12_numberNamed rfl rfl rfl zhd_X12_numberNamed ⟨Nat.le_of_ble_eq_true rfl, Nat.le_of_ble_eq_true rfl⟩) [0, 5, 6] rfl (of_decide_eq_true rfl) [4, 5] rfl rfl rfl rfl hl.1 rfl (Nat.le_of_ble_eq_true rfl) dX12_newName_23 ⟨Nat.le_of_ble_eq_true rfl, Nat.le_of_ble_eq_true rfl⟩ [some 0, none, none, none, none, some 1, some 2] (of_decide_eq_true rfl) (of_decide_eq_true rfl) rfl rfl rfl (fun H locs hP hD hS => ?_)
  refine lv_iconst (v := (-1)) hx hb dX12_newName_26 zci_m1 ?_
  refine lv_icmp_eq (tgt := 39) hx hb dX12_newName_27 (of_decide_eq_true rfl) (fun c_23 => ?_) (fun c_23 => ?_)
  · have hfn := (if_pos c_23).symm.trans hfn
    refine lv_iload_n hx hb dX12_newName_39 rfl (lv_at hl 0 rfl) ?_
    have ho := Option.some.inj hfn
    subst ho
    exact zri hx hb hr hK hP hD hS hQ rfl hlocks dX12_newName_40
  have hfn := (if_neg c_23).symm.trans hfn
  refine lv_aload_n hx hb dX12_newName_30 rfl (lv_at hl 1 rfl) ?_
  refine lv_iconst (v := 3) hx hb dX12_newName_31 zci_3 ?_
  refine lv_aload_n hx hb dX12_newName_32 rfl (lv_at hl 1 rfl) ?_
  refine va_get (D := (dC, dI)) (ci := 12) (v := .int o_1.2.2.1) (C := RX12) (T := TX12) (N := 67) hx hb hts zn_X12_newName_X12 hown hK hP 0 rfl rfl 7 (of_decide_eq_true rfl) (hts (.fieldLink RX12 32 "ShortEnoughModel" "begun" "I") zw_X12_newName_927) (fun _ h9 => h9) rfl dX12_newName_33 ?_
  obtain ⟨o_24, hqo_24, hfn⟩ := zb_s hfn
  refine zcVv (ci := 12) (rest := []) (pc' := 39) (ws' := [(h0, .inr (12, zO a0 (zI (zI (zI (zI b0 6 o_1.2.1) 7 o_1.2.2.1) 8 o_24.1) 9 o_24.2) c0)), zVi (a0 0) k1 1200 f1, zVi (a0 10) k2 71 f2, zVi (a0 12) k3 2 f3, zVi (a0 13) k4 8 f4, zVi (a0 17) k5 2 f5, zVi (a0 18) k6 28 f6]) hP hK hD hS hA ⟨hx, hb, hml, hown, hts⟩ (zf_X12_faults l dC dI h0 3 o_1.2.2.1 a0 (zI (zI (zI (zI b0 6 o_1.2.1) 7 o_1.2.2.1) 8 o_1.2.2.2.1) 9 o_1.2.2.2.2) c0 o_24 hqo_24 H.size) (cwV 2 hts gX12_newName_X12_faults rfl rfl rfl zhd_X12_faults ⟨Nat.le_of_ble_eq_true rfl, Nat.le_of_ble_eq_true rfl⟩) [0] rfl (of_decide_eq_true rfl) [] rfl rfl rfl rfl hl.1 rfl (Nat.le_of_ble_eq_true rfl) dX12_newName_36 ⟨Nat.le_of_ble_eq_true rfl, Nat.le_of_ble_eq_true rfl⟩ [some 0] (of_decide_eq_true rfl) (of_decide_eq_true rfl) rfl rfl rfl (fun H locs hP hD hS => ?_)
  refine lv_iload_n hx hb dX12_newName_39 rfl (lv_at hl 0 rfl) ?_
  have ho := Option.some.inj hfn
  subst ho
  exact zri hx hb hr hK hP hD hS hQ rfl hlocks dX12_newName_40
theorem zn_X12_toldNumber_X12 : ∀ w ∈ wsX120, w ∈ wsX12_toldNumber := fun _ h => List.mem_cons_of_mem _ (List.mem_append_right _ h)
theorem zw_X12_toldNumber_929 : Cond.fieldLink RX12 32 "ShortEnoughModel" "begun" "I" ∈ wsX12_toldNumber := List.mem_of_getElem? (i := 1) (by decide +kernel)
set_option maxHeartbeats 4000000 in
set_option maxRecDepth 100000 in
theorem zf_X12_toldNumber (l : Launch) (dC : Nat → ClassId) (dI : Nat → Nat → Nat) (h0 : Nat) (a0 : Nat → Nat) (b0 : Nat → Int32) (c0 : Nat → Int64) (k1 : Nat) (f1 : Nat → Int32) (k2 : Nat) (f2 : Nat → Int32) (k3 : Nat) (f3 : Nat → Int32) (k4 : Nat) (f4 : Nat → Int32) (o : Int32 × Int32 × Int32 × Int32 × Int32) (hfn : fn_X12_toldNumber (b0 5) (b0 6) (b0 7) (b0 8) (b0 9) (b0 11) f1 f2 f3 f4 = some o) (sz : Nat) : zMi l yX12_toldNumber wsX12_toldNumber ({ frames := 4, cells := 0, slots := 0, locals := 84 }) (dC, dI) vwCl [.ref h0] [(h0, .inr (12, zO a0 b0 c0)), zVi (a0 0) k1 1200 f1, zVi (a0 10) k2 71 f2, zVi (a0 17) k3 2 f3, zVi (a0 18) k4 28 f4] [(k1, .int), (k2, .int), (k3, .int), (k4, .int)] (fun r _ => r = o.1) [(h0, .inr (12, zO a0 (zI (zI (zI (zI b0 6 o.2.1) 7 o.2.2.1) 8 o.2.2.2.1) 9 o.2.2.2.2) c0)), zVi (a0 0) k1 1200 f1, zVi (a0 10) k2 71 f2, zVi (a0 17) k3 2 f3, zVi (a0 18) k4 28 f4] [(k1, .int), (k2, .int), (k3, .int), (k4, .int)] sz := by
  refine zgoi (cc := cX12_toldNumber) (maxL := 3) (ret := (some .int)) (C0 := RX12) (lv0 := [(0, .ref h0)]) zpl_X12 rfl rfl rfl (Nat.le_of_ble_eq_true rfl) ?_
  intro p e s m below meth c A ls Q hx hb hr hts hown hlocks hml hP hK hD hA hS hl hQ
  unfold fn_X12_toldNumber at hfn
  refine lv_aload_n hx hb dX12_toldNumber_0 rfl (lv_at hl 0 rfl) ?_
  obtain ⟨o_1, hqo_1, hfn⟩ := zb_s hfn
  refine zcVi (ci := 12) (rest := []) (pc' := 4) (ws' := [(h0, .inr (12, zO a0 (zI (zI (zI (zI b0 6 o_1.2.1) 7 o_1.2.2.1) 8 o_1.2.2.2.1) 9 o_1.2.2.2.2) c0)), zVi (a0 0) k1 1200 f1, zVi (a0 10) k2 71 f2, zVi (a0 17) k3 2 f3, zVi (a0 18) k4 28 f4]) hP hK hD hS hA ⟨hx, hb, hml, hown, hts⟩ (zf_X12_name l dC dI h0 a0 b0 c0 k1 f1 k2 f2 o_1 hqo_1 s.heap.size) (cwV 0 hts gX12_toldNumber_X12_name rfl rfl rfl zhd_X12_name ⟨Nat.le_of_ble_eq_true rfl, Nat.le_of_ble_eq_true rfl⟩) [0, 1, 2] rfl (of_decide_eq_true rfl) [0, 1] rfl rfl rfl rfl hl.1 rfl (Nat.le_of_ble_eq_true rfl) dX12_toldNumber_1 ⟨Nat.le_of_ble_eq_true rfl, Nat.le_of_ble_eq_true rfl⟩ [some 0, some 1, some 2] (of_decide_eq_true rfl) (of_decide_eq_true rfl) rfl rfl rfl (fun H locs hP hD hS => ?_)
  refine lv_istore_n (lv' := [(1, .int o_1.1), (0, .ref h0)]) hx hb dX12_toldNumber_4 rfl hl (of_decide_eq_true rfl) rfl (fun ls hl => ?_)
  refine lv_aload_n hx hb dX12_toldNumber_5 rfl (lv_at hl 1 rfl) ?_
  obtain ⟨o_5, hqo_5, hfn⟩ := zb_s hfn
  refine zcVb (ci := 12) (rest := []) (pc' := 9) (ws' := [(h0, .inr (12, zO a0 (zI (zI (zI (zI b0 6 o_1.2.1) 7 o_1.2.2.1) 8 o_1.2.2.2.1) 9 o_1.2.2.2.2) c0)), zVi (a0 0) k1 1200 f1, zVi (a0 10) k2 71 f2, zVi (a0 17) k3 2 f3, zVi (a0 18) k4 28 f4]) hP hK hD hS hA ⟨hx, hb, hml, hown, hts⟩ (zf_X12_goesWell l dC dI h0 a0 (zI (zI (zI (zI b0 6 o_1.2.1) 7 o_1.2.2.1) 8 o_1.2.2.2.1) 9 o_1.2.2.2.2) c0 o_5 hqo_5 H.size) (cwV 0 hts gX12_toldNumber_X12_goesWell rfl rfl rfl zhd_X12_goesWell ⟨Nat.le_of_ble_eq_true rfl, Nat.le_of_ble_eq_true rfl⟩) [0] rfl (of_decide_eq_true rfl) [] rfl rfl rfl rfl hl.1 rfl (Nat.le_of_ble_eq_true rfl) dX12_toldNumber_6 ⟨Nat.le_of_ble_eq_true rfl, Nat.le_of_ble_eq_true rfl⟩ [some 0] (of_decide_eq_true rfl) (of_decide_eq_true rfl) rfl rfl rfl (fun H locs hw_8n hP hD hS => ?_)
  obtain ⟨j_9, ej_9, hfn⟩ := zj_g hfn
  have jp_9 : ∀ (s_9 : Int32) (H : Heap) (locs : List Loc) (ls : Array Slot), j_9 s_9 = some o → va_P (dC, dI) vwCl [(h0, .inr (12, zO a0 (zI (zI (zI (zI b0 6 o_1.2.1) 7 o_1.2.2.1) 8 o_1.2.2.2.1) 9 o_1.2.2.2.2) c0)), zVi (a0 0) k1 1200 f1, zVi (a0 10) k2 71 f2, zVi (a0 17) k3 2 f3, zVi (a0 18) k4 28 f4] H → va_D A [(h0, .inr (12, zO a0 (zI (zI (zI (zI b0 6 o_1.2.1) 7 o_1.2.2.1) 8 o_1.2.2.2.1) 9 o_1.2.2.2.2) c0)), zVi (a0 0) k1 1200 f1, zVi (a0 10) k2 71 f2, zVi (a0 17) k3 2 f3, zVi (a0 18) k4 28 f4] → va_S A s.heap H locs → lv_has ls 3 [(0, .ref h0)] → W p l e (headSpec wsX12_toldNumber ({ frames := 4, cells := 0, slots := 0, locals := 84 })).room s m ([.ref h0] : List Value).toArray below meth c H locs 0 0 Q (F0 m 21 ls [.int s_9]) := by
    intro s_9 H locs ls hfn hP hD hS hl
    have hfn := zj_s ej_9 hfn
    refine lv_istore_n (lv' := [(2, .int s_9), (0, .ref h0)]) hx hb dX12_toldNumber_21 rfl hl (of_decide_eq_true rfl) rfl (fun ls hl => ?_)
    refine lv_aload_n hx hb dX12_toldNumber_22 rfl (lv_at hl 1 rfl) ?_
    obtain ⟨o_10, hqo_10, hfn⟩ := zb_s hfn
    refine zcVb (ci := 12) (rest := []) (pc' := 26) (ws' := [(h0, .inr (12, zO a0 (zI (zI (zI (zI b0 6 o_1.2.1) 7 o_1.2.2.1) 8 o_1.2.2.2.1) 9 o_1.2.2.2.2) c0)), zVi (a0 0) k1 1200 f1, zVi (a0 10) k2 71 f2, zVi (a0 17) k3 2 f3, zVi (a0 18) k4 28 f4]) hP hK hD hS hA ⟨hx, hb, hml, hown, hts⟩ (zf_X12_goesWell l dC dI h0 a0 (zI (zI (zI (zI b0 6 o_1.2.1) 7 o_1.2.2.1) 8 o_1.2.2.2.1) 9 o_1.2.2.2.2) c0 o_10 hqo_10 H.size) (cwV 0 hts gX12_toldNumber_X12_goesWell rfl rfl rfl zhd_X12_goesWell ⟨Nat.le_of_ble_eq_true rfl, Nat.le_of_ble_eq_true rfl⟩) [0] rfl (of_decide_eq_true rfl) [] rfl rfl rfl rfl hl.1 rfl (Nat.le_of_ble_eq_true rfl) dX12_toldNumber_23 ⟨Nat.le_of_ble_eq_true rfl, Nat.le_of_ble_eq_true rfl⟩ [some 0] (of_decide_eq_true rfl) (of_decide_eq_true rfl) rfl rfl rfl (fun H locs hw_13n hP hD hS => ?_)
    refine lv_if_eq (tgt := 43) hx hb dX12_toldNumber_26 (of_decide_eq_true rfl) (fun c_14 => ?_) (fun c_14 => ?_)
    · have hfn := (if_pos c_14).symm.trans hfn
      refine lv_aload_n hx hb dX12_toldNumber_43 rfl (lv_at hl 1 rfl) ?_
      obtain ⟨o_15, hqo_15, hfn⟩ := zb_s hfn
      refine zcVb (ci := 12) (rest := []) (pc' := 47) (ws' := [(h0, .inr (12, zO a0 (zI (zI (zI (zI b0 6 o_1.2.1) 7 o_1.2.2.1) 8 o_1.2.2.2.1) 9 o_1.2.2.2.2) c0)), zVi (a0 0) k1 1200 f1, zVi (a0 10) k2 71 f2, zVi (a0 17) k3 2 f3, zVi (a0 18) k4 28 f4]) hP hK hD hS hA ⟨hx, hb, hml, hown, hts⟩ (zf_X12_goesWell l dC dI h0 a0 (zI (zI (zI (zI b0 6 o_1.2.1) 7 o_1.2.2.1) 8 o_1.2.2.2.1) 9 o_1.2.2.2.2) c0 o_15 hqo_15 H.size) (cwV 0 hts gX12_toldNumber_X12_goesWell rfl rfl rfl zhd_X12_goesWell ⟨Nat.le_of_ble_eq_true rfl, Nat.le_of_ble_eq_true rfl⟩) [0] rfl (of_decide_eq_true rfl) [] rfl rfl rfl rfl hl.1 rfl (Nat.le_of_ble_eq_true rfl) dX12_toldNumber_44 ⟨Nat.le_of_ble_eq_true rfl, Nat.le_of_ble_eq_true rfl⟩ [some 0] (of_decide_eq_true rfl) (of_decide_eq_true rfl) rfl rfl rfl (fun H locs hw_18n hP hD hS => ?_)
      refine lv_if_eq (tgt := 54) hx hb dX12_toldNumber_47 (of_decide_eq_true rfl) (fun c_19 => ?_) (fun c_19 => ?_)
      · have hfn := (if_pos c_19).symm.trans hfn
        refine lv_iconst (v := 0) hx hb dX12_toldNumber_54 zci_0 ?_
        have ho := Option.some.inj hfn
        subst ho
        exact zri hx hb hr hK hP hD hS hQ rfl hlocks dX12_toldNumber_55
      have hfn := (if_neg c_19).symm.trans hfn
      refine lv_iload_n hx hb dX12_toldNumber_50 rfl (lv_at hl 0 rfl) ?_
      refine lv_goto (tgt := 55) hx hb dX12_toldNumber_51 (of_decide_eq_true rfl) ?_
      have ho := Option.some.inj hfn
      subst ho
      exact zri hx hb hr hK hP hD hS hQ rfl hlocks dX12_toldNumber_55
    have hfn := (if_neg c_14).symm.trans hfn
    refine lv_iload_n hx hb dX12_toldNumber_29 rfl (lv_at hl 0 rfl) ?_
    refine lv_iconst (v := (-1)) hx hb dX12_toldNumber_30 zci_m1 ?_
    refine lv_icmp_ne (tgt := 43) hx hb dX12_toldNumber_31 (of_decide_eq_true rfl) (fun c_20 => ?_) (fun c_20 => ?_)
    · have hfn := (if_neg c_20).symm.trans hfn
      refine lv_aload_n hx hb dX12_toldNumber_43 rfl (lv_at hl 1 rfl) ?_
      obtain ⟨o_21, hqo_21, hfn⟩ := zb_s hfn
      refine zcVb (ci := 12) (rest := []) (pc' := 47) (ws' := [(h0, .inr (12, zO a0 (zI (zI (zI (zI b0 6 o_1.2.1) 7 o_1.2.2.1) 8 o_1.2.2.2.1) 9 o_1.2.2.2.2) c0)), zVi (a0 0) k1 1200 f1, zVi (a0 10) k2 71 f2, zVi (a0 17) k3 2 f3, zVi (a0 18) k4 28 f4]) hP hK hD hS hA ⟨hx, hb, hml, hown, hts⟩ (zf_X12_goesWell l dC dI h0 a0 (zI (zI (zI (zI b0 6 o_1.2.1) 7 o_1.2.2.1) 8 o_1.2.2.2.1) 9 o_1.2.2.2.2) c0 o_21 hqo_21 H.size) (cwV 0 hts gX12_toldNumber_X12_goesWell rfl rfl rfl zhd_X12_goesWell ⟨Nat.le_of_ble_eq_true rfl, Nat.le_of_ble_eq_true rfl⟩) [0] rfl (of_decide_eq_true rfl) [] rfl rfl rfl rfl hl.1 rfl (Nat.le_of_ble_eq_true rfl) dX12_toldNumber_44 ⟨Nat.le_of_ble_eq_true rfl, Nat.le_of_ble_eq_true rfl⟩ [some 0] (of_decide_eq_true rfl) (of_decide_eq_true rfl) rfl rfl rfl (fun H locs hw_24n hP hD hS => ?_)
      refine lv_if_eq (tgt := 54) hx hb dX12_toldNumber_47 (of_decide_eq_true rfl) (fun c_25 => ?_) (fun c_25 => ?_)
      · have hfn := (if_pos c_25).symm.trans hfn
        refine lv_iconst (v := 0) hx hb dX12_toldNumber_54 zci_0 ?_
        have ho := Option.some.inj hfn
        subst ho
        exact zri hx hb hr hK hP hD hS hQ rfl hlocks dX12_toldNumber_55
      have hfn := (if_neg c_25).symm.trans hfn
      refine lv_iload_n hx hb dX12_toldNumber_50 rfl (lv_at hl 0 rfl) ?_
      refine lv_goto (tgt := 55) hx hb dX12_toldNumber_51 (of_decide_eq_true rfl) ?_
      have ho := Option.some.inj hfn
      subst ho
      exact zri hx hb hr hK hP hD hS hQ rfl hlocks dX12_toldNumber_55
    have hfn := (if_pos c_20).symm.trans hfn
    refine lv_aload_n hx hb dX12_toldNumber_34 rfl (lv_at hl 1 rfl) ?_
    refine lv_iconst (v := 3) hx hb dX12_toldNumber_35 zci_3 ?_
    refine lv_aload_n hx hb dX12_toldNumber_36 rfl (lv_at hl 1 rfl) ?_
    refine va_get (D := (dC, dI)) (ci := 12) (v := .int o_1.2.2.1) (C := RX12) (T := TX12) (N := 67) hx hb hts zn_X12_toldNumber_X12 hown hK hP 0 rfl rfl 7 (of_decide_eq_true rfl) (hts (.fieldLink RX12 32 "ShortEnoughModel" "begun" "I") zw_X12_toldNumber_929) (fun _ h9 => h9) rfl dX12_toldNumber_37 ?_
    obtain ⟨o_26, hqo_26, hfn⟩ := zb_s hfn
    refine zcVv (ci := 12) (rest := []) (pc' := 43) (ws' := [(h0, .inr (12, zO a0 (zI (zI (zI (zI b0 6 o_1.2.1) 7 o_1.2.2.1) 8 o_26.1) 9 o_26.2) c0)), zVi (a0 0) k1 1200 f1, zVi (a0 10) k2 71 f2, zVi (a0 17) k3 2 f3, zVi (a0 18) k4 28 f4]) hP hK hD hS hA ⟨hx, hb, hml, hown, hts⟩ (zf_X12_faults l dC dI h0 3 o_1.2.2.1 a0 (zI (zI (zI (zI b0 6 o_1.2.1) 7 o_1.2.2.1) 8 o_1.2.2.2.1) 9 o_1.2.2.2.2) c0 o_26 hqo_26 H.size) (cwV 2 hts gX12_toldNumber_X12_faults rfl rfl rfl zhd_X12_faults ⟨Nat.le_of_ble_eq_true rfl, Nat.le_of_ble_eq_true rfl⟩) [0] rfl (of_decide_eq_true rfl) [] rfl rfl rfl rfl hl.1 rfl (Nat.le_of_ble_eq_true rfl) dX12_toldNumber_40 ⟨Nat.le_of_ble_eq_true rfl, Nat.le_of_ble_eq_true rfl⟩ [some 0] (of_decide_eq_true rfl) (of_decide_eq_true rfl) rfl rfl rfl (fun H locs hP hD hS => ?_)
    refine lv_aload_n hx hb dX12_toldNumber_43 rfl (lv_at hl 1 rfl) ?_
    obtain ⟨o_30, hqo_30, hfn⟩ := zb_s hfn
    refine zcVb (ci := 12) (rest := []) (pc' := 47) (ws' := [(h0, .inr (12, zO a0 (zI (zI (zI (zI b0 6 o_1.2.1) 7 o_1.2.2.1) 8 o_26.1) 9 o_26.2) c0)), zVi (a0 0) k1 1200 f1, zVi (a0 10) k2 71 f2, zVi (a0 17) k3 2 f3, zVi (a0 18) k4 28 f4]) hP hK hD hS hA ⟨hx, hb, hml, hown, hts⟩ (zf_X12_goesWell l dC dI h0 a0 (zI (zI (zI (zI b0 6 o_1.2.1) 7 o_1.2.2.1) 8 o_26.1) 9 o_26.2) c0 o_30 hqo_30 H.size) (cwV 0 hts gX12_toldNumber_X12_goesWell rfl rfl rfl zhd_X12_goesWell ⟨Nat.le_of_ble_eq_true rfl, Nat.le_of_ble_eq_true rfl⟩) [0] rfl (of_decide_eq_true rfl) [] rfl rfl rfl rfl hl.1 rfl (Nat.le_of_ble_eq_true rfl) dX12_toldNumber_44 ⟨Nat.le_of_ble_eq_true rfl, Nat.le_of_ble_eq_true rfl⟩ [some 0] (of_decide_eq_true rfl) (of_decide_eq_true rfl) rfl rfl rfl (fun H locs hw_33n hP hD hS => ?_)
    refine lv_if_eq (tgt := 54) hx hb dX12_toldNumber_47 (of_decide_eq_true rfl) (fun c_34 => ?_) (fun c_34 => ?_)
    · have hfn := (if_pos c_34).symm.trans hfn
      refine lv_iconst (v := 0) hx hb dX12_toldNumber_54 zci_0 ?_
      have ho := Option.some.inj hfn
      subst ho
      exact zri hx hb hr hK hP hD hS hQ rfl hlocks dX12_toldNumber_55
    have hfn := (if_neg c_34).symm.trans hfn
    refine lv_iload_n hx hb dX12_toldNumber_50 rfl (lv_at hl 0 rfl) ?_
    refine lv_goto (tgt := 55) hx hb dX12_toldNumber_51 (of_decide_eq_true rfl) ?_
    have ho := Option.some.inj hfn
    subst ho
    exact zri hx hb hr hK hP hD hS hQ rfl hlocks dX12_toldNumber_55
  refine lv_if_eq (tgt := 20) hx hb dX12_toldNumber_9 (of_decide_eq_true rfl) (fun c_35 => ?_) (fun c_35 => ?_)
  · have hfn := (if_pos c_35).symm.trans hfn
    refine lv_iconst (v := 0) hx hb dX12_toldNumber_20 zci_0 ?_
    exact jp_9 0 H locs ls hfn hP hD hS (lv_sub hl [1] rfl)
  have hfn := (if_neg c_35).symm.trans hfn
  refine lv_aload_n hx hb dX12_toldNumber_12 rfl (lv_at hl 1 rfl) ?_
  refine lv_iload_n hx hb dX12_toldNumber_13 rfl (lv_at hl 0 rfl) ?_
  obtain ⟨o_36, hqo_36, hfn⟩ := zb_s hfn
  refine zcVi (ci := 12) (rest := []) (pc' := 17) (ws' := [(h0, .inr (12, zO a0 (zI (zI (zI (zI b0 6 o_1.2.1) 7 o_1.2.2.1) 8 o_1.2.2.2.1) 9 o_1.2.2.2.2) c0)), zVi (a0 0) k1 1200 f1, zVi (a0 10) k2 71 f2, zVi (a0 17) k3 2 f3, zVi (a0 18) k4 28 f4]) hP hK hD hS hA ⟨hx, hb, hml, hown, hts⟩ (zf_X12_numberNamed l dC dI h0 o_1.1 a0 (zI (zI (zI (zI b0 6 o_1.2.1) 7 o_1.2.2.1) 8 o_1.2.2.2.1) 9 o_1.2.2.2.2) c0 k3 f3 k4 f4 o_36 hqo_36 H.size) (cwV 1 hts gX12_toldNumber_X12_numberNamed rfl rfl rfl zhd_X12_numberNamed ⟨Nat.le_of_ble_eq_true rfl, Nat.le_of_ble_eq_true rfl⟩) [0, 3, 4] rfl (of_decide_eq_true rfl) [2, 3] rfl rfl rfl rfl hl.1 rfl (Nat.le_of_ble_eq_true rfl) dX12_toldNumber_14 ⟨Nat.le_of_ble_eq_true rfl, Nat.le_of_ble_eq_true rfl⟩ [some 0, none, none, some 1, some 2] (of_decide_eq_true rfl) (of_decide_eq_true rfl) rfl rfl rfl (fun H locs hP hD hS => ?_)
  refine lv_goto (tgt := 21) hx hb dX12_toldNumber_17 (of_decide_eq_true rfl) ?_
  exact jp_9 o_36 H locs ls hfn hP hD hS (lv_sub hl [1] rfl)
theorem zw_X12_readsFormat_930 : Cond.constantLong RX12 288 (1000000) ∈ wsX12_readsFormat := List.mem_of_getElem? (i := 1) (by decide +kernel)
theorem zw_X12_readsFormat_931 : Cond.constantLong RX12 294 (1000000000) ∈ wsX12_readsFormat := List.mem_of_getElem? (i := 2) (by decide +kernel)
theorem zn_X12_readsFormat_X12 : ∀ w ∈ wsX120, w ∈ wsX12_readsFormat := fun _ h => List.mem_cons_of_mem _ (List.mem_append_right _ h)
theorem zw_X12_readsFormat_933 : Cond.fieldLink RX12 32 "ShortEnoughModel" "begun" "I" ∈ wsX12_readsFormat := List.mem_of_getElem? (i := 3) (by decide +kernel)
theorem zw_X12_readsFormat_934 : Cond.constantLong RX12 296 (999) ∈ wsX12_readsFormat := List.mem_of_getElem? (i := 4) (by decide +kernel)
theorem zw_X12_readsFormat_935 : Cond.fieldLink RX12 47 "ShortEnoughModel" "formats" "[I" ∈ wsX12_readsFormat := List.mem_of_getElem? (i := 5) (by decide +kernel)
theorem zw_X12_readsFormat_936 : Cond.fieldLink RX12 44 "ShortEnoughModel" "in" "I" ∈ wsX12_readsFormat := List.mem_of_getElem? (i := 6) (by decide +kernel)
theorem zw_X12_readsFormat_937 : Cond.fieldLink RX12 50 "ShortEnoughModel" "formatName" "[I" ∈ wsX12_readsFormat := List.mem_of_getElem? (i := 7) (by decide +kernel)
theorem zw_X12_readsFormat_938 : Cond.fieldLink RX12 53 "ShortEnoughModel" "step" "[I" ∈ wsX12_readsFormat := List.mem_of_getElem? (i := 8) (by decide +kernel)
theorem zw_X12_readsFormat_939 : Cond.fieldLink RX12 56 "ShortEnoughModel" "most" "[I" ∈ wsX12_readsFormat := List.mem_of_getElem? (i := 9) (by decide +kernel)
theorem zw_X12_readsFormat_940 : Cond.fieldLink RX12 59 "ShortEnoughModel" "formatCost" "[I" ∈ wsX12_readsFormat := List.mem_of_getElem? (i := 10) (by decide +kernel)
set_option maxHeartbeats 4000000 in
set_option maxRecDepth 100000 in
theorem zf_X12_readsFormat (l : Launch) (dC : Nat → ClassId) (dI : Nat → Nat → Nat) (h0 : Nat) (a0 : Nat → Nat) (b0 : Nat → Int32) (c0 : Nat → Int64) (k1 : Nat) (f1 : Nat → Int32) (k2 : Nat) (f2 : Nat → Int32) (k3 : Nat) (f3 : Nat → Int32) (k4 : Nat) (f4 : Nat → Int32) (k5 : Nat) (f5 : Nat → Int32) (k6 : Nat) (f6 : Nat → Int32) (k7 : Nat) (f7 : Nat → Int32) (k8 : Nat) (f8 : Nat → Int32) (k9 : Nat) (f9 : Nat → Int32) (o : Int32 × Int32 × Int32 × Int32 × (Nat → Int32) × (Nat → Int32) × (Nat → Int32) × (Nat → Int32) × (Nat → Int32)) (hfn : fn_X12_readsFormat (b0 5) (b0 6) (b0 7) (b0 8) (b0 9) (b0 11) f1 f2 f3 f4 f5 f6 f7 f8 f9 = some o) (sz : Nat) : zMv l yX12_readsFormat wsX12_readsFormat ({ frames := 5, cells := 0, slots := 0, locals := 105 }) (dC, dI) vwCl [.ref h0] [(h0, .inr (12, zO a0 b0 c0)), zVi (a0 0) k1 1200 f1, zVi (a0 10) k2 71 f2, zVi (a0 12) k3 2 f3, zVi (a0 13) k4 8 f4, zVi (a0 17) k5 2 f5, zVi (a0 18) k6 28 f6, zVi (a0 14) k7 8 f7, zVi (a0 15) k8 8 f8, zVi (a0 16) k9 8 f9] [(k1, .int), (k2, .int), (k3, .int), (k4, .int), (k5, .int), (k6, .int), (k7, .int), (k8, .int), (k9, .int)] (fun _ => True) [(h0, .inr (12, zO a0 (zI (zI (zI (zI b0 6 o.1) 7 o.2.1) 8 o.2.2.1) 9 o.2.2.2.1) c0)), zVi (a0 0) k1 1200 f1, zVi (a0 10) k2 71 f2, zVi (a0 12) k3 2 o.2.2.2.2.1, zVi (a0 13) k4 8 o.2.2.2.2.2.1, zVi (a0 17) k5 2 f5, zVi (a0 18) k6 28 f6, zVi (a0 14) k7 8 o.2.2.2.2.2.2.1, zVi (a0 15) k8 8 o.2.2.2.2.2.2.2.1, zVi (a0 16) k9 8 o.2.2.2.2.2.2.2.2] [(k1, .int), (k2, .int), (k3, .int), (k4, .int), (k5, .int), (k6, .int), (k7, .int), (k8, .int), (k9, .int)] sz := by
  refine zgov (cc := cX12_readsFormat) (maxL := 9) (ret := none) (C0 := RX12) (lv0 := [(0, .ref h0)]) zpl_X12 rfl rfl rfl (Nat.le_of_ble_eq_true rfl) ?_
  intro p e s m below meth c A ls Q hx hb hr hts hown hlocks hml hP hK hD hA hS hl hQ
  unfold fn_X12_readsFormat at hfn
  refine lv_aload_n hx hb dX12_readsFormat_0 rfl (lv_at hl 0 rfl) ?_
  obtain ⟨o_1, hqo_1, hfn⟩ := zb_s hfn
  refine zcVi (ci := 12) (rest := []) (pc' := 4) (ws' := [(h0, .inr (12, zO a0 (zI (zI (zI (zI b0 6 o_1.2.1) 7 o_1.2.2.1) 8 o_1.2.2.2.1) 9 o_1.2.2.2.2) c0)), zVi (a0 0) k1 1200 f1, zVi (a0 10) k2 71 f2, zVi (a0 12) k3 2 f3, zVi (a0 13) k4 8 f4, zVi (a0 17) k5 2 f5, zVi (a0 18) k6 28 f6, zVi (a0 14) k7 8 f7, zVi (a0 15) k8 8 f8, zVi (a0 16) k9 8 f9]) hP hK hD hS hA ⟨hx, hb, hml, hown, hts⟩ (zf_X12_newName l dC dI h0 a0 b0 c0 k1 f1 k2 f2 k3 f3 k4 f4 k5 f5 k6 f6 o_1 hqo_1 s.heap.size) (cwV 0 hts gX12_readsFormat_X12_newName rfl rfl rfl zhd_X12_newName ⟨Nat.le_of_ble_eq_true rfl, Nat.le_of_ble_eq_true rfl⟩) [0, 1, 2, 3, 4, 5, 6] rfl (of_decide_eq_true rfl) [0, 1, 2, 3, 4, 5] rfl rfl rfl rfl hl.1 rfl (Nat.le_of_ble_eq_true rfl) dX12_readsFormat_1 ⟨Nat.le_of_ble_eq_true rfl, Nat.le_of_ble_eq_true rfl⟩ [some 0, some 1, some 2, some 3, some 4, some 5, some 6] (of_decide_eq_true rfl) (of_decide_eq_true rfl) rfl rfl rfl (fun H locs hP hD hS => ?_)
  refine lv_istore_n (lv' := [(1, .int o_1.1), (0, .ref h0)]) hx hb dX12_readsFormat_4 rfl hl (of_decide_eq_true rfl) rfl (fun ls hl => ?_)
  refine lv_aload_n hx hb dX12_readsFormat_5 rfl (lv_at hl 1 rfl) ?_
  refine lv_iconst (v := 1) hx hb dX12_readsFormat_6 zci_1 ?_
  obtain ⟨o_5, hqo_5, hfn⟩ := zb_s hfn
  refine zcVv (ci := 12) (rest := []) (pc' := 10) (ws' := [(h0, .inr (12, zO a0 (zI (zI (zI (zI b0 6 o_5.1) 7 o_5.2.1) 8 o_5.2.2.1) 9 o_5.2.2.2) c0)), zVi (a0 0) k1 1200 f1, zVi (a0 10) k2 71 f2, zVi (a0 12) k3 2 f3, zVi (a0 13) k4 8 f4, zVi (a0 17) k5 2 f5, zVi (a0 18) k6 28 f6, zVi (a0 14) k7 8 f7, zVi (a0 15) k8 8 f8, zVi (a0 16) k9 8 f9]) hP hK hD hS hA ⟨hx, hb, hml, hown, hts⟩ (zf_X12_must l dC dI h0 1 a0 (zI (zI (zI (zI b0 6 o_1.2.1) 7 o_1.2.2.1) 8 o_1.2.2.2.1) 9 o_1.2.2.2.2) c0 k1 f1 k2 f2 o_5 hqo_5 H.size) (cwV 1 hts gX12_readsFormat_X12_must rfl rfl rfl zhd_X12_must ⟨Nat.le_of_ble_eq_true rfl, Nat.le_of_ble_eq_true rfl⟩) [0, 1, 2] rfl (of_decide_eq_true rfl) [0, 1] rfl rfl rfl rfl hl.1 rfl (Nat.le_of_ble_eq_true rfl) dX12_readsFormat_7 ⟨Nat.le_of_ble_eq_true rfl, Nat.le_of_ble_eq_true rfl⟩ [some 0, some 1, some 2] (of_decide_eq_true rfl) (of_decide_eq_true rfl) rfl rfl rfl (fun H locs hP hD hS => ?_)
  refine lv_aload_n hx hb dX12_readsFormat_10 rfl (lv_at hl 1 rfl) ?_
  refine lv_lconst (v := 1) hx hb dX12_readsFormat_11 (by decide +kernel) ?_
  refine lv_ldc2 (v := 1000000) hx hb hown (hts (.constantLong RX12 288 (1000000)) zw_X12_readsFormat_930) dX12_readsFormat_12 ?_
  obtain ⟨o_9, hqo_9, hfn⟩ := zb_s hfn
  refine zcVl (ci := 12) (rest := []) (pc' := 18) (ws' := [(h0, .inr (12, zO a0 (zI (zI (zI (zI b0 6 o_9.2.1) 7 o_9.2.2.1) 8 o_9.2.2.2.1) 9 o_9.2.2.2.2) c0)), zVi (a0 0) k1 1200 f1, zVi (a0 10) k2 71 f2, zVi (a0 12) k3 2 f3, zVi (a0 13) k4 8 f4, zVi (a0 17) k5 2 f5, zVi (a0 18) k6 28 f6, zVi (a0 14) k7 8 f7, zVi (a0 15) k8 8 f8, zVi (a0 16) k9 8 f9]) hP hK hD hS hA ⟨hx, hb, hml, hown, hts⟩ (zf_X12_number l dC dI h0 (1 : Int64) (1000000 : Int64) a0 (zI (zI (zI (zI b0 6 o_5.1) 7 o_5.2.1) 8 o_5.2.2.1) 9 o_5.2.2.2) c0 k1 f1 o_9 hqo_9 H.size) (cwV 2 hts gX12_readsFormat_X12_number rfl rfl rfl zhd_X12_number ⟨Nat.le_of_ble_eq_true rfl, Nat.le_of_ble_eq_true rfl⟩) [0, 1] rfl (of_decide_eq_true rfl) [0] rfl rfl rfl rfl hl.1 rfl (Nat.le_of_ble_eq_true rfl) dX12_readsFormat_15 ⟨Nat.le_of_ble_eq_true rfl, Nat.le_of_ble_eq_true rfl⟩ [some 0, some 1] (of_decide_eq_true rfl) (of_decide_eq_true rfl) rfl rfl rfl (fun H locs hP hD hS => ?_)
  refine lv_lstore_n (lv' := [(2, .long o_9.1), (1, .int o_1.1), (0, .ref h0)]) hx hb dX12_readsFormat_18 rfl hl (of_decide_eq_true rfl) rfl (fun ls hl => ?_)
  refine lv_aload_n hx hb dX12_readsFormat_19 rfl (lv_at hl 2 rfl) ?_
  refine lv_iconst (v := 2) hx hb dX12_readsFormat_20 zci_2 ?_
  obtain ⟨o_13, hqo_13, hfn⟩ := zb_s hfn
  refine zcVv (ci := 12) (rest := []) (pc' := 24) (ws' := [(h0, .inr (12, zO a0 (zI (zI (zI (zI b0 6 o_13.1) 7 o_13.2.1) 8 o_13.2.2.1) 9 o_13.2.2.2) c0)), zVi (a0 0) k1 1200 f1, zVi (a0 10) k2 71 f2, zVi (a0 12) k3 2 f3, zVi (a0 13) k4 8 f4, zVi (a0 17) k5 2 f5, zVi (a0 18) k6 28 f6, zVi (a0 14) k7 8 f7, zVi (a0 15) k8 8 f8, zVi (a0 16) k9 8 f9]) hP hK hD hS hA ⟨hx, hb, hml, hown, hts⟩ (zf_X12_must l dC dI h0 2 a0 (zI (zI (zI (zI b0 6 o_9.2.1) 7 o_9.2.2.1) 8 o_9.2.2.2.1) 9 o_9.2.2.2.2) c0 k1 f1 k2 f2 o_13 hqo_13 H.size) (cwV 1 hts gX12_readsFormat_X12_must rfl rfl rfl zhd_X12_must ⟨Nat.le_of_ble_eq_true rfl, Nat.le_of_ble_eq_true rfl⟩) [0, 1, 2] rfl (of_decide_eq_true rfl) [0, 1] rfl rfl rfl rfl hl.1 rfl (Nat.le_of_ble_eq_true rfl) dX12_readsFormat_21 ⟨Nat.le_of_ble_eq_true rfl, Nat.le_of_ble_eq_true rfl⟩ [some 0, some 1, some 2] (of_decide_eq_true rfl) (of_decide_eq_true rfl) rfl rfl rfl (fun H locs hP hD hS => ?_)
  refine lv_aload_n hx hb dX12_readsFormat_24 rfl (lv_at hl 2 rfl) ?_
  obtain ⟨o_17, hqo_17, hfn⟩ := zb_s hfn
  refine zcVl (ci := 12) (rest := []) (pc' := 28) (ws' := [(h0, .inr (12, zO a0 (zI (zI (zI (zI b0 6 o_17.2.1) 7 o_17.2.2.1) 8 o_17.2.2.2.1) 9 o_17.2.2.2.2) c0)), zVi (a0 0) k1 1200 f1, zVi (a0 10) k2 71 f2, zVi (a0 12) k3 2 f3, zVi (a0 13) k4 8 f4, zVi (a0 17) k5 2 f5, zVi (a0 18) k6 28 f6, zVi (a0 14) k7 8 f7, zVi (a0 15) k8 8 f8, zVi (a0 16) k9 8 f9]) hP hK hD hS hA ⟨hx, hb, hml, hown, hts⟩ (zf_X12_digits l dC dI h0 a0 (zI (zI (zI (zI b0 6 o_13.1) 7 o_13.2.1) 8 o_13.2.2.1) 9 o_13.2.2.2) c0 k1 f1 o_17 hqo_17 H.size) (cwV 0 hts gX12_readsFormat_X12_digits rfl rfl rfl zhd_X12_digits ⟨Nat.le_of_ble_eq_true rfl, Nat.le_of_ble_eq_true rfl⟩) [0, 1] rfl (of_decide_eq_true rfl) [0] rfl rfl rfl rfl hl.1 rfl (Nat.le_of_ble_eq_true rfl) dX12_readsFormat_25 ⟨Nat.le_of_ble_eq_true rfl, Nat.le_of_ble_eq_true rfl⟩ [some 0, some 1] (of_decide_eq_true rfl) (of_decide_eq_true rfl) rfl rfl rfl (fun H locs hP hD hS => ?_)
  refine lv_lstore (lv' := [(4, .long o_17.1), (2, .long o_9.1), (1, .int o_1.1), (0, .ref h0)]) hx hb dX12_readsFormat_28 hl (of_decide_eq_true rfl) rfl (fun ls hl => ?_)
  refine lv_aload_n hx hb dX12_readsFormat_30 rfl (lv_at hl 3 rfl) ?_
  obtain ⟨o_21, hqo_21, hfn⟩ := zb_s hfn
  refine zcVb (ci := 12) (rest := []) (pc' := 34) (ws' := [(h0, .inr (12, zO a0 (zI (zI (zI (zI b0 6 o_17.2.1) 7 o_17.2.2.1) 8 o_17.2.2.2.1) 9 o_17.2.2.2.2) c0)), zVi (a0 0) k1 1200 f1, zVi (a0 10) k2 71 f2, zVi (a0 12) k3 2 f3, zVi (a0 13) k4 8 f4, zVi (a0 17) k5 2 f5, zVi (a0 18) k6 28 f6, zVi (a0 14) k7 8 f7, zVi (a0 15) k8 8 f8, zVi (a0 16) k9 8 f9]) hP hK hD hS hA ⟨hx, hb, hml, hown, hts⟩ (zf_X12_goesWell l dC dI h0 a0 (zI (zI (zI (zI b0 6 o_17.2.1) 7 o_17.2.2.1) 8 o_17.2.2.2.1) 9 o_17.2.2.2.2) c0 o_21 hqo_21 H.size) (cwV 0 hts gX12_readsFormat_X12_goesWell rfl rfl rfl zhd_X12_goesWell ⟨Nat.le_of_ble_eq_true rfl, Nat.le_of_ble_eq_true rfl⟩) [0] rfl (of_decide_eq_true rfl) [] rfl rfl rfl rfl hl.1 rfl (Nat.le_of_ble_eq_true rfl) dX12_readsFormat_31 ⟨Nat.le_of_ble_eq_true rfl, Nat.le_of_ble_eq_true rfl⟩ [some 0] (of_decide_eq_true rfl) (of_decide_eq_true rfl) rfl rfl rfl (fun H locs hw_24n hP hD hS => ?_)
  obtain ⟨j_25, ej_25, hfn⟩ := zj_g hfn
  have jp_25 : ∀ (s_25 : Int32 × Int32) (H : Heap) (locs : List Loc) (ls : Array Slot), j_25 s_25 = some o → va_P (dC, dI) vwCl [(h0, .inr (12, zO a0 (zI (zI (zI (zI b0 6 o_17.2.1) 7 o_17.2.2.1) 8 s_25.1) 9 s_25.2) c0)), zVi (a0 0) k1 1200 f1, zVi (a0 10) k2 71 f2, zVi (a0 12) k3 2 f3, zVi (a0 13) k4 8 f4, zVi (a0 17) k5 2 f5, zVi (a0 18) k6 28 f6, zVi (a0 14) k7 8 f7, zVi (a0 15) k8 8 f8, zVi (a0 16) k9 8 f9] H → va_D A [(h0, .inr (12, zO a0 (zI (zI (zI (zI b0 6 o_17.2.1) 7 o_17.2.2.1) 8 s_25.1) 9 s_25.2) c0)), zVi (a0 0) k1 1200 f1, zVi (a0 10) k2 71 f2, zVi (a0 12) k3 2 f3, zVi (a0 13) k4 8 f4, zVi (a0 17) k5 2 f5, zVi (a0 18) k6 28 f6, zVi (a0 14) k7 8 f7, zVi (a0 15) k8 8 f8, zVi (a0 16) k9 8 f9] → va_S A s.heap H locs → lv_has ls 9 [(4, .long o_17.1), (2, .long o_9.1), (1, .int o_1.1), (0, .ref h0)] → W p l e (headSpec wsX12_readsFormat ({ frames := 5, cells := 0, slots := 0, locals := 105 })).room s m ([.ref h0] : List Value).toArray below meth c H locs 0 0 Q (F0 m 58 ls []) := by
    intro s_25 H locs ls hfn hP hD hS hl
    have hfn := zj_s ej_25 hfn
    refine lv_aload_n hx hb dX12_readsFormat_58 rfl (lv_at hl 3 rfl) ?_
    refine lv_iconst (v := 3) hx hb dX12_readsFormat_59 zci_3 ?_
    obtain ⟨o_26, hqo_26, hfn⟩ := zb_s hfn
    refine zcVv (ci := 12) (rest := []) (pc' := 63) (ws' := [(h0, .inr (12, zO a0 (zI (zI (zI (zI b0 6 o_26.1) 7 o_26.2.1) 8 o_26.2.2.1) 9 o_26.2.2.2) c0)), zVi (a0 0) k1 1200 f1, zVi (a0 10) k2 71 f2, zVi (a0 12) k3 2 f3, zVi (a0 13) k4 8 f4, zVi (a0 17) k5 2 f5, zVi (a0 18) k6 28 f6, zVi (a0 14) k7 8 f7, zVi (a0 15) k8 8 f8, zVi (a0 16) k9 8 f9]) hP hK hD hS hA ⟨hx, hb, hml, hown, hts⟩ (zf_X12_must l dC dI h0 3 a0 (zI (zI (zI (zI b0 6 o_17.2.1) 7 o_17.2.2.1) 8 s_25.1) 9 s_25.2) c0 k1 f1 k2 f2 o_26 hqo_26 H.size) (cwV 1 hts gX12_readsFormat_X12_must rfl rfl rfl zhd_X12_must ⟨Nat.le_of_ble_eq_true rfl, Nat.le_of_ble_eq_true rfl⟩) [0, 1, 2] rfl (of_decide_eq_true rfl) [0, 1] rfl rfl rfl rfl hl.1 rfl (Nat.le_of_ble_eq_true rfl) dX12_readsFormat_60 ⟨Nat.le_of_ble_eq_true rfl, Nat.le_of_ble_eq_true rfl⟩ [some 0, some 1, some 2] (of_decide_eq_true rfl) (of_decide_eq_true rfl) rfl rfl rfl (fun H locs hP hD hS => ?_)
    refine lv_aload_n hx hb dX12_readsFormat_63 rfl (lv_at hl 3 rfl) ?_
    refine lv_lconst (v := 0) hx hb dX12_readsFormat_64 (by decide +kernel) ?_
    refine lv_ldc2 (v := 999) hx hb hown (hts (.constantLong RX12 296 (999)) zw_X12_readsFormat_934) dX12_readsFormat_65 ?_
    obtain ⟨o_30, hqo_30, hfn⟩ := zb_s hfn
    refine zcVl (ci := 12) (rest := []) (pc' := 71) (ws' := [(h0, .inr (12, zO a0 (zI (zI (zI (zI b0 6 o_30.2.1) 7 o_30.2.2.1) 8 o_30.2.2.2.1) 9 o_30.2.2.2.2) c0)), zVi (a0 0) k1 1200 f1, zVi (a0 10) k2 71 f2, zVi (a0 12) k3 2 f3, zVi (a0 13) k4 8 f4, zVi (a0 17) k5 2 f5, zVi (a0 18) k6 28 f6, zVi (a0 14) k7 8 f7, zVi (a0 15) k8 8 f8, zVi (a0 16) k9 8 f9]) hP hK hD hS hA ⟨hx, hb, hml, hown, hts⟩ (zf_X12_number l dC dI h0 (0 : Int64) (999 : Int64) a0 (zI (zI (zI (zI b0 6 o_26.1) 7 o_26.2.1) 8 o_26.2.2.1) 9 o_26.2.2.2) c0 k1 f1 o_30 hqo_30 H.size) (cwV 2 hts gX12_readsFormat_X12_number rfl rfl rfl zhd_X12_number ⟨Nat.le_of_ble_eq_true rfl, Nat.le_of_ble_eq_true rfl⟩) [0, 1] rfl (of_decide_eq_true rfl) [0] rfl rfl rfl rfl hl.1 rfl (Nat.le_of_ble_eq_true rfl) dX12_readsFormat_68 ⟨Nat.le_of_ble_eq_true rfl, Nat.le_of_ble_eq_true rfl⟩ [some 0, some 1] (of_decide_eq_true rfl) (of_decide_eq_true rfl) rfl rfl rfl (fun H locs hP hD hS => ?_)
    refine lv_lstore (lv' := [(6, .long o_30.1), (4, .long o_17.1), (2, .long o_9.1), (1, .int o_1.1), (0, .ref h0)]) hx hb dX12_readsFormat_71 hl (of_decide_eq_true rfl) rfl (fun ls hl => ?_)
    refine lv_aload_n hx hb dX12_readsFormat_73 rfl (lv_at hl 4 rfl) ?_
    obtain ⟨o_34, hqo_34, hfn⟩ := zb_s hfn
    refine zcVb (ci := 12) (rest := []) (pc' := 77) (ws' := [(h0, .inr (12, zO a0 (zI (zI (zI (zI b0 6 o_30.2.1) 7 o_30.2.2.1) 8 o_30.2.2.2.1) 9 o_30.2.2.2.2) c0)), zVi (a0 0) k1 1200 f1, zVi (a0 10) k2 71 f2, zVi (a0 12) k3 2 f3, zVi (a0 13) k4 8 f4, zVi (a0 17) k5 2 f5, zVi (a0 18) k6 28 f6, zVi (a0 14) k7 8 f7, zVi (a0 15) k8 8 f8, zVi (a0 16) k9 8 f9]) hP hK hD hS hA ⟨hx, hb, hml, hown, hts⟩ (zf_X12_goesWell l dC dI h0 a0 (zI (zI (zI (zI b0 6 o_30.2.1) 7 o_30.2.2.1) 8 o_30.2.2.2.1) 9 o_30.2.2.2.2) c0 o_34 hqo_34 H.size) (cwV 0 hts gX12_readsFormat_X12_goesWell rfl rfl rfl zhd_X12_goesWell ⟨Nat.le_of_ble_eq_true rfl, Nat.le_of_ble_eq_true rfl⟩) [0] rfl (of_decide_eq_true rfl) [] rfl rfl rfl rfl hl.1 rfl (Nat.le_of_ble_eq_true rfl) dX12_readsFormat_74 ⟨Nat.le_of_ble_eq_true rfl, Nat.le_of_ble_eq_true rfl⟩ [some 0] (of_decide_eq_true rfl) (of_decide_eq_true rfl) rfl rfl rfl (fun H locs hw_37n hP hD hS => ?_)
    refine lv_if_ne (tgt := 81) hx hb dX12_readsFormat_77 (of_decide_eq_true rfl) (fun c_38 => ?_) (fun c_38 => ?_)
    · have hfn := (if_neg c_38).symm.trans hfn
      refine lv_aload_n hx hb dX12_readsFormat_81 rfl (lv_at hl 4 rfl) ?_
      refine lv_aload_n hx hb dX12_readsFormat_82 rfl (lv_at hl 4 rfl) ?_
      refine va_get (D := (dC, dI)) (ci := 12) (v := .ref (a0 12)) (C := RX12) (T := TX12) (N := 67) hx hb hts zn_X12_readsFormat_X12 hown hK hP 0 rfl rfl 12 (of_decide_eq_true rfl) (hts (.fieldLink RX12 47 "ShortEnoughModel" "formats" "[I") zw_X12_readsFormat_935) (fun _ h9 => h9) rfl dX12_readsFormat_83 ?_
      refine lv_aload_n hx hb dX12_readsFormat_86 rfl (lv_at hl 4 rfl) ?_
      refine va_get (D := (dC, dI)) (ci := 12) (v := .int (b0 11)) (C := RX12) (T := TX12) (N := 67) hx hb hts zn_X12_readsFormat_X12 hown hK hP 0 rfl rfl 11 (of_decide_eq_true rfl) (hts (.fieldLink RX12 44 "ShortEnoughModel" "in" "I") zw_X12_readsFormat_936) (fun _ h9 => h9) rfl dX12_readsFormat_87 ?_
      obtain ⟨h_39, hfn⟩ := zg_s hfn
      refine va_iald hx hb hK hP 3 2 rfl rfl h_39 dX12_readsFormat_90 ?_
      obtain ⟨o_40, hqo_40, hfn⟩ := zb_s hfn
      refine zcVi (ci := 12) (rest := []) (pc' := 94) (ws' := [(h0, .inr (12, zO a0 (zI (zI (zI (zI b0 6 o_30.2.1) 7 o_30.2.2.1) 8 o_30.2.2.2.1) 9 o_30.2.2.2.2) c0)), zVi (a0 0) k1 1200 f1, zVi (a0 10) k2 71 f2, zVi (a0 12) k3 2 f3, zVi (a0 13) k4 8 f4, zVi (a0 17) k5 2 f5, zVi (a0 18) k6 28 f6, zVi (a0 14) k7 8 f7, zVi (a0 15) k8 8 f8, zVi (a0 16) k9 8 f9]) hP hK hD hS hA ⟨hx, hb, hml, hown, hts⟩ (zf_X12_f l dC dI h0 (f3 (b0 11).toNatClampNeg) a0 (zI (zI (zI (zI b0 6 o_30.2.1) 7 o_30.2.2.1) 8 o_30.2.2.2.1) 9 o_30.2.2.2.2) c0 o_40 hqo_40 H.size) (cwV 1 hts gX12_readsFormat_X12_f rfl rfl rfl zhd_X12_f ⟨Nat.le_of_ble_eq_true rfl, Nat.le_of_ble_eq_true rfl⟩) [0] rfl (of_decide_eq_true rfl) [] rfl rfl rfl rfl hl.1 rfl (Nat.le_of_ble_eq_true rfl) dX12_readsFormat_91 ⟨Nat.le_of_ble_eq_true rfl, Nat.le_of_ble_eq_true rfl⟩ [some 0] (of_decide_eq_true rfl) (of_decide_eq_true rfl) rfl rfl rfl (fun H locs hP hD hS => ?_)
      refine lv_istore (lv' := [(8, .int o_40), (6, .long o_30.1), (4, .long o_17.1), (2, .long o_9.1), (1, .int o_1.1), (0, .ref h0)]) hx hb dX12_readsFormat_94 hl (of_decide_eq_true rfl) rfl (fun ls hl => ?_)
      refine lv_aload_n hx hb dX12_readsFormat_96 rfl (lv_at hl 5 rfl) ?_
      refine va_get (D := (dC, dI)) (ci := 12) (v := .ref (a0 13)) (C := RX12) (T := TX12) (N := 67) hx hb hts zn_X12_readsFormat_X12 hown hK hP 0 rfl rfl 13 (of_decide_eq_true rfl) (hts (.fieldLink RX12 50 "ShortEnoughModel" "formatName" "[I") zw_X12_readsFormat_937) (fun _ h9 => h9) rfl dX12_readsFormat_97 ?_
      refine lv_iload hx hb dX12_readsFormat_100 (lv_at hl 0 rfl) ?_
      refine lv_iload_n hx hb dX12_readsFormat_102 rfl (lv_at hl 4 rfl) ?_
      obtain ⟨h_44, hfn⟩ := zg_s hfn
      refine va_iast hx hb hK hP hD hS 4 3 rfl rfl h_44 dX12_readsFormat_103 (fun H locs hP hD hS => ?_)
      have hP : va_P (dC, dI) vwCl [(h0, .inr (12, zO a0 (zI (zI (zI (zI b0 6 o_30.2.1) 7 o_30.2.2.1) 8 o_30.2.2.2.1) 9 o_30.2.2.2.2) c0)), zVi (a0 0) k1 1200 f1, zVi (a0 10) k2 71 f2, zVi (a0 12) k3 2 f3, zVi (a0 13) k4 8 (upd f4 o_40.toNatClampNeg o_1.1), zVi (a0 17) k5 2 f5, zVi (a0 18) k6 28 f6, zVi (a0 14) k7 8 f7, zVi (a0 15) k8 8 f8, zVi (a0 16) k9 8 f9] H := hP
      have hD := zDW hD hP rfl
      refine lv_aload_n hx hb dX12_readsFormat_104 rfl (lv_at hl 5 rfl) ?_
      refine va_get (D := (dC, dI)) (ci := 12) (v := .ref (a0 14)) (C := RX12) (T := TX12) (N := 67) hx hb hts zn_X12_readsFormat_X12 hown hK hP 0 rfl rfl 14 (of_decide_eq_true rfl) (hts (.fieldLink RX12 53 "ShortEnoughModel" "step" "[I") zw_X12_readsFormat_938) (fun _ h9 => h9) rfl dX12_readsFormat_105 ?_
      refine lv_iload hx hb dX12_readsFormat_108 (lv_at hl 0 rfl) ?_
      refine lv_lload_n hx hb dX12_readsFormat_110 rfl (lv_at hl 3 rfl) ?_
      refine lv_l2i (v := o_9.1.toInt32) hx hb dX12_readsFormat_111 rfl ?_
      refine va_iast hx hb hK hP hD hS 7 6 rfl rfl h_44 dX12_readsFormat_112 (fun H locs hP hD hS => ?_)
      have hP : va_P (dC, dI) vwCl [(h0, .inr (12, zO a0 (zI (zI (zI (zI b0 6 o_30.2.1) 7 o_30.2.2.1) 8 o_30.2.2.2.1) 9 o_30.2.2.2.2) c0)), zVi (a0 0) k1 1200 f1, zVi (a0 10) k2 71 f2, zVi (a0 12) k3 2 f3, zVi (a0 13) k4 8 (upd f4 o_40.toNatClampNeg o_1.1), zVi (a0 17) k5 2 f5, zVi (a0 18) k6 28 f6, zVi (a0 14) k7 8 (upd f7 o_40.toNatClampNeg o_9.1.toInt32), zVi (a0 15) k8 8 f8, zVi (a0 16) k9 8 f9] H := hP
      have hD := zDW hD hP rfl
      refine lv_aload_n hx hb dX12_readsFormat_113 rfl (lv_at hl 5 rfl) ?_
      refine va_get (D := (dC, dI)) (ci := 12) (v := .ref (a0 15)) (C := RX12) (T := TX12) (N := 67) hx hb hts zn_X12_readsFormat_X12 hown hK hP 0 rfl rfl 15 (of_decide_eq_true rfl) (hts (.fieldLink RX12 56 "ShortEnoughModel" "most" "[I") zw_X12_readsFormat_939) (fun _ h9 => h9) rfl dX12_readsFormat_114 ?_
      refine lv_iload hx hb dX12_readsFormat_117 (lv_at hl 0 rfl) ?_
      refine lv_lload hx hb dX12_readsFormat_119 (lv_at hl 2 rfl) ?_
      refine lv_l2i (v := o_17.1.toInt32) hx hb dX12_readsFormat_121 rfl ?_
      refine va_iast hx hb hK hP hD hS 8 7 rfl rfl h_44 dX12_readsFormat_122 (fun H locs hP hD hS => ?_)
      have hP : va_P (dC, dI) vwCl [(h0, .inr (12, zO a0 (zI (zI (zI (zI b0 6 o_30.2.1) 7 o_30.2.2.1) 8 o_30.2.2.2.1) 9 o_30.2.2.2.2) c0)), zVi (a0 0) k1 1200 f1, zVi (a0 10) k2 71 f2, zVi (a0 12) k3 2 f3, zVi (a0 13) k4 8 (upd f4 o_40.toNatClampNeg o_1.1), zVi (a0 17) k5 2 f5, zVi (a0 18) k6 28 f6, zVi (a0 14) k7 8 (upd f7 o_40.toNatClampNeg o_9.1.toInt32), zVi (a0 15) k8 8 (upd f8 o_40.toNatClampNeg o_17.1.toInt32), zVi (a0 16) k9 8 f9] H := hP
      have hD := zDW hD hP rfl
      refine lv_aload_n hx hb dX12_readsFormat_123 rfl (lv_at hl 5 rfl) ?_
      refine va_get (D := (dC, dI)) (ci := 12) (v := .ref (a0 16)) (C := RX12) (T := TX12) (N := 67) hx hb hts zn_X12_readsFormat_X12 hown hK hP 0 rfl rfl 16 (of_decide_eq_true rfl) (hts (.fieldLink RX12 59 "ShortEnoughModel" "formatCost" "[I") zw_X12_readsFormat_940) (fun _ h9 => h9) rfl dX12_readsFormat_124 ?_
      refine lv_iload hx hb dX12_readsFormat_127 (lv_at hl 0 rfl) ?_
      refine lv_lload hx hb dX12_readsFormat_129 (lv_at hl 1 rfl) ?_
      refine lv_l2i (v := o_30.1.toInt32) hx hb dX12_readsFormat_131 rfl ?_
      refine va_iast hx hb hK hP hD hS 9 8 rfl rfl h_44 dX12_readsFormat_132 (fun H locs hP hD hS => ?_)
      have hP : va_P (dC, dI) vwCl [(h0, .inr (12, zO a0 (zI (zI (zI (zI b0 6 o_30.2.1) 7 o_30.2.2.1) 8 o_30.2.2.2.1) 9 o_30.2.2.2.2) c0)), zVi (a0 0) k1 1200 f1, zVi (a0 10) k2 71 f2, zVi (a0 12) k3 2 f3, zVi (a0 13) k4 8 (upd f4 o_40.toNatClampNeg o_1.1), zVi (a0 17) k5 2 f5, zVi (a0 18) k6 28 f6, zVi (a0 14) k7 8 (upd f7 o_40.toNatClampNeg o_9.1.toInt32), zVi (a0 15) k8 8 (upd f8 o_40.toNatClampNeg o_17.1.toInt32), zVi (a0 16) k9 8 (upd f9 o_40.toNatClampNeg o_30.1.toInt32)] H := hP
      have hD := zDW hD hP rfl
      refine lv_aload_n hx hb dX12_readsFormat_133 rfl (lv_at hl 5 rfl) ?_
      refine va_get (D := (dC, dI)) (ci := 12) (v := .ref (a0 12)) (C := RX12) (T := TX12) (N := 67) hx hb hts zn_X12_readsFormat_X12 hown hK hP 0 rfl rfl 12 (of_decide_eq_true rfl) (hts (.fieldLink RX12 47 "ShortEnoughModel" "formats" "[I") zw_X12_readsFormat_935) (fun _ h9 => h9) rfl dX12_readsFormat_134 ?_
      refine lv_aload_n hx hb dX12_readsFormat_137 rfl (lv_at hl 5 rfl) ?_
      refine va_get (D := (dC, dI)) (ci := 12) (v := .int (b0 11)) (C := RX12) (T := TX12) (N := 67) hx hb hts zn_X12_readsFormat_X12 hown hK hP 0 rfl rfl 11 (of_decide_eq_true rfl) (hts (.fieldLink RX12 44 "ShortEnoughModel" "in" "I") zw_X12_readsFormat_936) (fun _ h9 => h9) rfl dX12_readsFormat_138 ?_
      refine lv_dup2_11 hx hb dX12_readsFormat_141 rfl rfl ?_
      refine va_iald hx hb hK hP 3 2 rfl rfl h_39 dX12_readsFormat_142 ?_
      refine lv_iconst (v := 1) hx hb dX12_readsFormat_143 zci_1 ?_
      refine lv_iadd hx hb dX12_readsFormat_144 ?_
      refine va_iast hx hb hK hP hD hS 3 2 rfl rfl h_39 dX12_readsFormat_145 (fun H locs hP hD hS => ?_)
      have hP : va_P (dC, dI) vwCl [(h0, .inr (12, zO a0 (zI (zI (zI (zI b0 6 o_30.2.1) 7 o_30.2.2.1) 8 o_30.2.2.2.1) 9 o_30.2.2.2.2) c0)), zVi (a0 0) k1 1200 f1, zVi (a0 10) k2 71 f2, zVi (a0 12) k3 2 (upd f3 (b0 11).toNatClampNeg ((f3 (b0 11).toNatClampNeg) + 1)), zVi (a0 13) k4 8 (upd f4 o_40.toNatClampNeg o_1.1), zVi (a0 17) k5 2 f5, zVi (a0 18) k6 28 f6, zVi (a0 14) k7 8 (upd f7 o_40.toNatClampNeg o_9.1.toInt32), zVi (a0 15) k8 8 (upd f8 o_40.toNatClampNeg o_17.1.toInt32), zVi (a0 16) k9 8 (upd f9 o_40.toNatClampNeg o_30.1.toInt32)] H := hP
      have hD := zDW hD hP rfl
      have ho := Option.some.inj hfn
      subst ho
      exact zrv hx hb hr hK hP hD hS hQ trivial hlocks dX12_readsFormat_146
    have hfn := (if_pos c_38).symm.trans hfn
    have ho := Option.some.inj hfn
    subst ho
    exact zrv hx hb hr hK hP hD hS hQ trivial hlocks dX12_readsFormat_80
  refine lv_if_eq (tgt := 58) hx hb dX12_readsFormat_34 (of_decide_eq_true rfl) (fun c_45 => ?_) (fun c_45 => ?_)
  · have hfn := (if_pos c_45).symm.trans hfn
    exact jp_25 (o_17.2.2.2.1, o_17.2.2.2.2) H locs ls hfn hP hD hS (lv_sub hl [0, 1, 2, 3] rfl)
  have hfn := (if_neg c_45).symm.trans hfn
  refine lv_lload hx hb dX12_readsFormat_37 (lv_at hl 0 rfl) ?_
  refine lv_lconst (v := 1) hx hb dX12_readsFormat_39 (by decide +kernel) ?_
  refine lv_ldc2 (v := 1000000000) hx hb hown (hts (.constantLong RX12 294 (1000000000)) zw_X12_readsFormat_931) dX12_readsFormat_40 ?_
  obtain ⟨o_46, hqo_46, hfn⟩ := zb_s hfn
  refine zcSb (rest := []) (pc' := 46) (ws' := [(h0, .inr (12, zO a0 (zI (zI (zI (zI b0 6 o_17.2.1) 7 o_17.2.2.1) 8 o_17.2.2.2.1) 9 o_17.2.2.2.2) c0)), zVi (a0 0) k1 1200 f1, zVi (a0 10) k2 71 f2, zVi (a0 12) k3 2 f3, zVi (a0 13) k4 8 f4, zVi (a0 17) k5 2 f5, zVi (a0 18) k6 28 f6, zVi (a0 14) k7 8 f7, zVi (a0 15) k8 8 f8, zVi (a0 16) k9 8 f9]) hP hK hD hS hA ⟨hx, hb, hml, hown, hts⟩ (zf_X12_isIn l dC dI o_17.1 (1 : Int64) (1000000000 : Int64) o_46 hqo_46 H.size) (va_cwS 3 hts gX12_readsFormat_X12_isIn rfl rfl rfl zhd_X12_isIn.2 ⟨Nat.le_of_ble_eq_true rfl, Nat.le_of_ble_eq_true rfl⟩) [] rfl (of_decide_eq_true rfl) [] rfl rfl hl.1 rfl (Nat.le_of_ble_eq_true rfl) dX12_readsFormat_43 ⟨Nat.le_of_ble_eq_true rfl, Nat.le_of_ble_eq_true rfl⟩ [] (of_decide_eq_true rfl) (of_decide_eq_true rfl) rfl rfl rfl (fun H locs hw_49n hP hD hS => ?_)
  refine lv_if_ne (tgt := 58) hx hb dX12_readsFormat_46 (of_decide_eq_true rfl) (fun c_50 => ?_) (fun c_50 => ?_)
  · have hfn := (if_neg c_50).symm.trans hfn
    exact jp_25 (o_17.2.2.2.1, o_17.2.2.2.2) H locs ls hfn hP hD hS (lv_sub hl [0, 1, 2, 3] rfl)
  have hfn := (if_pos c_50).symm.trans hfn
  refine lv_aload_n hx hb dX12_readsFormat_49 rfl (lv_at hl 3 rfl) ?_
  refine lv_iconst (v := 2) hx hb dX12_readsFormat_50 zci_2 ?_
  refine lv_aload_n hx hb dX12_readsFormat_51 rfl (lv_at hl 3 rfl) ?_
  refine va_get (D := (dC, dI)) (ci := 12) (v := .int o_17.2.2.1) (C := RX12) (T := TX12) (N := 67) hx hb hts zn_X12_readsFormat_X12 hown hK hP 0 rfl rfl 7 (of_decide_eq_true rfl) (hts (.fieldLink RX12 32 "ShortEnoughModel" "begun" "I") zw_X12_readsFormat_933) (fun _ h9 => h9) rfl dX12_readsFormat_52 ?_
  obtain ⟨o_51, hqo_51, hfn⟩ := zb_s hfn
  refine zcVv (ci := 12) (rest := []) (pc' := 58) (ws' := [(h0, .inr (12, zO a0 (zI (zI (zI (zI b0 6 o_17.2.1) 7 o_17.2.2.1) 8 o_51.1) 9 o_51.2) c0)), zVi (a0 0) k1 1200 f1, zVi (a0 10) k2 71 f2, zVi (a0 12) k3 2 f3, zVi (a0 13) k4 8 f4, zVi (a0 17) k5 2 f5, zVi (a0 18) k6 28 f6, zVi (a0 14) k7 8 f7, zVi (a0 15) k8 8 f8, zVi (a0 16) k9 8 f9]) hP hK hD hS hA ⟨hx, hb, hml, hown, hts⟩ (zf_X12_faults l dC dI h0 2 o_17.2.2.1 a0 (zI (zI (zI (zI b0 6 o_17.2.1) 7 o_17.2.2.1) 8 o_17.2.2.2.1) 9 o_17.2.2.2.2) c0 o_51 hqo_51 H.size) (cwV 2 hts gX12_readsFormat_X12_faults rfl rfl rfl zhd_X12_faults ⟨Nat.le_of_ble_eq_true rfl, Nat.le_of_ble_eq_true rfl⟩) [0] rfl (of_decide_eq_true rfl) [] rfl rfl rfl rfl hl.1 rfl (Nat.le_of_ble_eq_true rfl) dX12_readsFormat_55 ⟨Nat.le_of_ble_eq_true rfl, Nat.le_of_ble_eq_true rfl⟩ [some 0] (of_decide_eq_true rfl) (of_decide_eq_true rfl) rfl rfl rfl (fun H locs hP hD hS => ?_)
  exact jp_25 (o_51.1, o_51.2) H locs ls hfn hP hD hS (lv_sub hl [0, 1, 2, 3] rfl)
theorem zn_X12_newNumber_X12 : ∀ w ∈ wsX120, w ∈ wsX12_newNumber := fun _ h => List.mem_cons_of_mem _ (List.mem_append_right _ h)
theorem zw_X12_newNumber_942 : Cond.fieldLink RX12 62 "ShortEnoughModel" "numbers" "[I" ∈ wsX12_newNumber := List.mem_of_getElem? (i := 1) (by decide +kernel)
theorem zw_X12_newNumber_943 : Cond.fieldLink RX12 44 "ShortEnoughModel" "in" "I" ∈ wsX12_newNumber := List.mem_of_getElem? (i := 2) (by decide +kernel)
theorem zw_X12_newNumber_944 : Cond.fieldLink RX12 65 "ShortEnoughModel" "numberName" "[I" ∈ wsX12_newNumber := List.mem_of_getElem? (i := 3) (by decide +kernel)
theorem zw_X12_newNumber_945 : Cond.fieldLink RX12 68 "ShortEnoughModel" "op" "[I" ∈ wsX12_newNumber := List.mem_of_getElem? (i := 4) (by decide +kernel)
theorem zw_X12_newNumber_946 : Cond.fieldLink RX12 71 "ShortEnoughModel" "first" "[I" ∈ wsX12_newNumber := List.mem_of_getElem? (i := 5) (by decide +kernel)
theorem zw_X12_newNumber_947 : Cond.fieldLink RX12 74 "ShortEnoughModel" "second" "[I" ∈ wsX12_newNumber := List.mem_of_getElem? (i := 6) (by decide +kernel)
theorem zw_X12_newNumber_948 : Cond.fieldLink RX12 87 "ShortEnoughModel" "fixedAs" "[I" ∈ wsX12_newNumber := List.mem_of_getElem? (i := 7) (by decide +kernel)
theorem zw_X12_newNumber_949 : Cond.fieldLink RX12 90 "ShortEnoughModel" "within" "[I" ∈ wsX12_newNumber := List.mem_of_getElem? (i := 8) (by decide +kernel)
theorem zw_X12_newNumber_950 : Cond.fieldLink RX12 93 "ShortEnoughModel" "groupOf" "[I" ∈ wsX12_newNumber := List.mem_of_getElem? (i := 9) (by decide +kernel)
set_option maxHeartbeats 4000000 in
set_option maxRecDepth 100000 in
theorem zf_X12_newNumber (l : Launch) (dC : Nat → ClassId) (dI : Nat → Nat → Nat) (h0 : Nat) (p1 : Int32) (p2 : Int32) (a0 : Nat → Nat) (b0 : Nat → Int32) (c0 : Nat → Int64) (k1 : Nat) (f1 : Nat → Int32) (k2 : Nat) (f2 : Nat → Int32) (k3 : Nat) (f3 : Nat → Int32) (k4 : Nat) (f4 : Nat → Int32) (k5 : Nat) (f5 : Nat → Int32) (k6 : Nat) (f6 : Nat → Int32) (k7 : Nat) (f7 : Nat → Int32) (k8 : Nat) (f8 : Nat → Int32) (o : (Nat → Int32) × (Nat → Int32) × (Nat → Int32) × (Nat → Int32) × (Nat → Int32) × (Nat → Int32) × (Nat → Int32)) (hfn : fn_X12_newNumber p1 p2 (b0 11) f1 f2 f3 f4 f5 f6 f7 f8 = some o) (sz : Nat) : zMv l yX12_newNumber wsX12_newNumber ({ frames := 1, cells := 0, slots := 0, locals := 21 }) (dC, dI) vwCl [.ref h0, .int p1, .int p2] [(h0, .inr (12, zO a0 b0 c0)), zVi (a0 17) k1 2 f1, zVi (a0 18) k2 28 f2, zVi (a0 19) k3 28 f3, zVi (a0 20) k4 28 f4, zVi (a0 21) k5 28 f5, zVi (a0 25) k6 28 f6, zVi (a0 26) k7 28 f7, zVi (a0 27) k8 28 f8] [(k1, .int), (k2, .int), (k3, .int), (k4, .int), (k5, .int), (k6, .int), (k7, .int), (k8, .int)] (fun _ => True) [(h0, .inr (12, zO a0 b0 c0)), zVi (a0 17) k1 2 f1, zVi (a0 18) k2 28 o.1, zVi (a0 19) k3 28 o.2.1, zVi (a0 20) k4 28 o.2.2.1, zVi (a0 21) k5 28 o.2.2.2.1, zVi (a0 25) k6 28 o.2.2.2.2.1, zVi (a0 26) k7 28 o.2.2.2.2.2.1, zVi (a0 27) k8 28 o.2.2.2.2.2.2] [(k1, .int), (k2, .int), (k3, .int), (k4, .int), (k5, .int), (k6, .int), (k7, .int), (k8, .int)] sz := by
  refine zgov (cc := cX12_newNumber) (maxL := 4) (ret := none) (C0 := RX12) (lv0 := [(0, .ref h0), (1, .int p1), (2, .int p2)]) zpl_X12 rfl rfl rfl (Nat.le_of_ble_eq_true rfl) ?_
  intro p e s m below meth c A ls Q hx hb hr hts hown hlocks hml hP hK hD hA hS hl hQ
  unfold fn_X12_newNumber at hfn
  refine lv_aload_n hx hb dX12_newNumber_0 rfl (lv_at hl 0 rfl) ?_
  refine va_get (D := (dC, dI)) (ci := 12) (v := .ref (a0 17)) (C := RX12) (T := TX12) (N := 67) hx hb hts zn_X12_newNumber_X12 hown hK hP 0 rfl rfl 17 (of_decide_eq_true rfl) (hts (.fieldLink RX12 62 "ShortEnoughModel" "numbers" "[I") zw_X12_newNumber_942) (fun _ h9 => h9) rfl dX12_newNumber_1 ?_
  refine lv_aload_n hx hb dX12_newNumber_4 rfl (lv_at hl 0 rfl) ?_
  refine va_get (D := (dC, dI)) (ci := 12) (v := .int (b0 11)) (C := RX12) (T := TX12) (N := 67) hx hb hts zn_X12_newNumber_X12 hown hK hP 0 rfl rfl 11 (of_decide_eq_true rfl) (hts (.fieldLink RX12 44 "ShortEnoughModel" "in" "I") zw_X12_newNumber_943) (fun _ h9 => h9) rfl dX12_newNumber_5 ?_
  obtain ⟨h_1, hfn⟩ := zg_s hfn
  refine va_iald hx hb hK hP 1 0 rfl rfl h_1 dX12_newNumber_8 ?_
  refine lv_istore_n (lv' := [(3, .int (f1 (b0 11).toNatClampNeg)), (0, .ref h0), (1, .int p1), (2, .int p2)]) hx hb dX12_newNumber_9 rfl hl (of_decide_eq_true rfl) rfl (fun ls hl => ?_)
  refine lv_aload_n hx hb dX12_newNumber_10 rfl (lv_at hl 1 rfl) ?_
  refine va_get (D := (dC, dI)) (ci := 12) (v := .ref (a0 18)) (C := RX12) (T := TX12) (N := 67) hx hb hts zn_X12_newNumber_X12 hown hK hP 0 rfl rfl 18 (of_decide_eq_true rfl) (hts (.fieldLink RX12 65 "ShortEnoughModel" "numberName" "[I") zw_X12_newNumber_944) (fun _ h9 => h9) rfl dX12_newNumber_11 ?_
  refine lv_aload_n hx hb dX12_newNumber_14 rfl (lv_at hl 1 rfl) ?_
  refine lv_iload_n hx hb dX12_newNumber_15 rfl (lv_at hl 0 rfl) ?_
  obtain ⟨o_2, hqo_2, hfn⟩ := zb_s hfn
  refine zcVi (ci := 12) (rest := [.ref (a0 18)]) (pc' := 19) (ws' := [(h0, .inr (12, zO a0 b0 c0)), zVi (a0 17) k1 2 f1, zVi (a0 18) k2 28 f2, zVi (a0 19) k3 28 f3, zVi (a0 20) k4 28 f4, zVi (a0 21) k5 28 f5, zVi (a0 25) k6 28 f6, zVi (a0 26) k7 28 f7, zVi (a0 27) k8 28 f8]) hP hK hD hS hA ⟨hx, hb, hml, hown, hts⟩ (zf_X12_n l dC dI h0 (f1 (b0 11).toNatClampNeg) a0 b0 c0 o_2 hqo_2 s.heap.size) (cwV 1 hts gX12_newNumber_X12_n rfl rfl rfl zhd_X12_n ⟨Nat.le_of_ble_eq_true rfl, Nat.le_of_ble_eq_true rfl⟩) [0] rfl (of_decide_eq_true rfl) [] rfl rfl rfl rfl hl.1 rfl (Nat.le_of_ble_eq_true rfl) dX12_newNumber_16 ⟨Nat.le_of_ble_eq_true rfl, Nat.le_of_ble_eq_true rfl⟩ [some 0] (of_decide_eq_true rfl) (of_decide_eq_true rfl) rfl rfl rfl (fun H locs hP hD hS => ?_)
  refine lv_iload_n hx hb dX12_newNumber_19 rfl (lv_at hl 2 rfl) ?_
  obtain ⟨h_6, hfn⟩ := zg_s hfn
  refine va_iast hx hb hK hP hD hS 2 1 rfl rfl h_6 dX12_newNumber_20 (fun H locs hP hD hS => ?_)
  have hP : va_P (dC, dI) vwCl [(h0, .inr (12, zO a0 b0 c0)), zVi (a0 17) k1 2 f1, zVi (a0 18) k2 28 (upd f2 o_2.toNatClampNeg p1), zVi (a0 19) k3 28 f3, zVi (a0 20) k4 28 f4, zVi (a0 21) k5 28 f5, zVi (a0 25) k6 28 f6, zVi (a0 26) k7 28 f7, zVi (a0 27) k8 28 f8] H := hP
  have hD := zDW hD hP rfl
  refine lv_aload_n hx hb dX12_newNumber_21 rfl (lv_at hl 1 rfl) ?_
  refine va_get (D := (dC, dI)) (ci := 12) (v := .ref (a0 19)) (C := RX12) (T := TX12) (N := 67) hx hb hts zn_X12_newNumber_X12 hown hK hP 0 rfl rfl 19 (of_decide_eq_true rfl) (hts (.fieldLink RX12 68 "ShortEnoughModel" "op" "[I") zw_X12_newNumber_945) (fun _ h9 => h9) rfl dX12_newNumber_22 ?_
  refine lv_aload_n hx hb dX12_newNumber_25 rfl (lv_at hl 1 rfl) ?_
  refine lv_iload_n hx hb dX12_newNumber_26 rfl (lv_at hl 0 rfl) ?_
  obtain ⟨o_7, hqo_7, hfn⟩ := zb_s hfn
  refine zcVi (ci := 12) (rest := [.ref (a0 19)]) (pc' := 30) (ws' := [(h0, .inr (12, zO a0 b0 c0)), zVi (a0 17) k1 2 f1, zVi (a0 18) k2 28 (upd f2 o_2.toNatClampNeg p1), zVi (a0 19) k3 28 f3, zVi (a0 20) k4 28 f4, zVi (a0 21) k5 28 f5, zVi (a0 25) k6 28 f6, zVi (a0 26) k7 28 f7, zVi (a0 27) k8 28 f8]) hP hK hD hS hA ⟨hx, hb, hml, hown, hts⟩ (zf_X12_n l dC dI h0 (f1 (b0 11).toNatClampNeg) a0 b0 c0 o_7 hqo_7 H.size) (cwV 1 hts gX12_newNumber_X12_n rfl rfl rfl zhd_X12_n ⟨Nat.le_of_ble_eq_true rfl, Nat.le_of_ble_eq_true rfl⟩) [0] rfl (of_decide_eq_true rfl) [] rfl rfl rfl rfl hl.1 rfl (Nat.le_of_ble_eq_true rfl) dX12_newNumber_27 ⟨Nat.le_of_ble_eq_true rfl, Nat.le_of_ble_eq_true rfl⟩ [some 0] (of_decide_eq_true rfl) (of_decide_eq_true rfl) rfl rfl rfl (fun H locs hP hD hS => ?_)
  refine lv_iload_n hx hb dX12_newNumber_30 rfl (lv_at hl 3 rfl) ?_
  obtain ⟨h_11, hfn⟩ := zg_s hfn
  refine va_iast hx hb hK hP hD hS 3 2 rfl rfl h_11 dX12_newNumber_31 (fun H locs hP hD hS => ?_)
  have hP : va_P (dC, dI) vwCl [(h0, .inr (12, zO a0 b0 c0)), zVi (a0 17) k1 2 f1, zVi (a0 18) k2 28 (upd f2 o_2.toNatClampNeg p1), zVi (a0 19) k3 28 (upd f3 o_7.toNatClampNeg p2), zVi (a0 20) k4 28 f4, zVi (a0 21) k5 28 f5, zVi (a0 25) k6 28 f6, zVi (a0 26) k7 28 f7, zVi (a0 27) k8 28 f8] H := hP
  have hD := zDW hD hP rfl
  refine lv_aload_n hx hb dX12_newNumber_32 rfl (lv_at hl 1 rfl) ?_
  refine va_get (D := (dC, dI)) (ci := 12) (v := .ref (a0 20)) (C := RX12) (T := TX12) (N := 67) hx hb hts zn_X12_newNumber_X12 hown hK hP 0 rfl rfl 20 (of_decide_eq_true rfl) (hts (.fieldLink RX12 71 "ShortEnoughModel" "first" "[I") zw_X12_newNumber_946) (fun _ h9 => h9) rfl dX12_newNumber_33 ?_
  refine lv_aload_n hx hb dX12_newNumber_36 rfl (lv_at hl 1 rfl) ?_
  refine lv_iload_n hx hb dX12_newNumber_37 rfl (lv_at hl 0 rfl) ?_
  obtain ⟨o_12, hqo_12, hfn⟩ := zb_s hfn
  refine zcVi (ci := 12) (rest := [.ref (a0 20)]) (pc' := 41) (ws' := [(h0, .inr (12, zO a0 b0 c0)), zVi (a0 17) k1 2 f1, zVi (a0 18) k2 28 (upd f2 o_2.toNatClampNeg p1), zVi (a0 19) k3 28 (upd f3 o_7.toNatClampNeg p2), zVi (a0 20) k4 28 f4, zVi (a0 21) k5 28 f5, zVi (a0 25) k6 28 f6, zVi (a0 26) k7 28 f7, zVi (a0 27) k8 28 f8]) hP hK hD hS hA ⟨hx, hb, hml, hown, hts⟩ (zf_X12_n l dC dI h0 (f1 (b0 11).toNatClampNeg) a0 b0 c0 o_12 hqo_12 H.size) (cwV 1 hts gX12_newNumber_X12_n rfl rfl rfl zhd_X12_n ⟨Nat.le_of_ble_eq_true rfl, Nat.le_of_ble_eq_true rfl⟩) [0] rfl (of_decide_eq_true rfl) [] rfl rfl rfl rfl hl.1 rfl (Nat.le_of_ble_eq_true rfl) dX12_newNumber_38 ⟨Nat.le_of_ble_eq_true rfl, Nat.le_of_ble_eq_true rfl⟩ [some 0] (of_decide_eq_true rfl) (of_decide_eq_true rfl) rfl rfl rfl (fun H locs hP hD hS => ?_)
  refine lv_iconst (v := (-1)) hx hb dX12_newNumber_41 zci_m1 ?_
  obtain ⟨h_16, hfn⟩ := zg_s hfn
  refine va_iast hx hb hK hP hD hS 4 3 rfl rfl h_16 dX12_newNumber_42 (fun H locs hP hD hS => ?_)
  have hP : va_P (dC, dI) vwCl [(h0, .inr (12, zO a0 b0 c0)), zVi (a0 17) k1 2 f1, zVi (a0 18) k2 28 (upd f2 o_2.toNatClampNeg p1), zVi (a0 19) k3 28 (upd f3 o_7.toNatClampNeg p2), zVi (a0 20) k4 28 (upd f4 o_12.toNatClampNeg (-1)), zVi (a0 21) k5 28 f5, zVi (a0 25) k6 28 f6, zVi (a0 26) k7 28 f7, zVi (a0 27) k8 28 f8] H := hP
  have hD := zDW hD hP rfl
  refine lv_aload_n hx hb dX12_newNumber_43 rfl (lv_at hl 1 rfl) ?_
  refine va_get (D := (dC, dI)) (ci := 12) (v := .ref (a0 21)) (C := RX12) (T := TX12) (N := 67) hx hb hts zn_X12_newNumber_X12 hown hK hP 0 rfl rfl 21 (of_decide_eq_true rfl) (hts (.fieldLink RX12 74 "ShortEnoughModel" "second" "[I") zw_X12_newNumber_947) (fun _ h9 => h9) rfl dX12_newNumber_44 ?_
  refine lv_aload_n hx hb dX12_newNumber_47 rfl (lv_at hl 1 rfl) ?_
  refine lv_iload_n hx hb dX12_newNumber_48 rfl (lv_at hl 0 rfl) ?_
  obtain ⟨o_17, hqo_17, hfn⟩ := zb_s hfn
  refine zcVi (ci := 12) (rest := [.ref (a0 21)]) (pc' := 52) (ws' := [(h0, .inr (12, zO a0 b0 c0)), zVi (a0 17) k1 2 f1, zVi (a0 18) k2 28 (upd f2 o_2.toNatClampNeg p1), zVi (a0 19) k3 28 (upd f3 o_7.toNatClampNeg p2), zVi (a0 20) k4 28 (upd f4 o_12.toNatClampNeg (-1)), zVi (a0 21) k5 28 f5, zVi (a0 25) k6 28 f6, zVi (a0 26) k7 28 f7, zVi (a0 27) k8 28 f8]) hP hK hD hS hA ⟨hx, hb, hml, hown, hts⟩ (zf_X12_n l dC dI h0 (f1 (b0 11).toNatClampNeg) a0 b0 c0 o_17 hqo_17 H.size) (cwV 1 hts gX12_newNumber_X12_n rfl rfl rfl zhd_X12_n ⟨Nat.le_of_ble_eq_true rfl, Nat.le_of_ble_eq_true rfl⟩) [0] rfl (of_decide_eq_true rfl) [] rfl rfl rfl rfl hl.1 rfl (Nat.le_of_ble_eq_true rfl) dX12_newNumber_49 ⟨Nat.le_of_ble_eq_true rfl, Nat.le_of_ble_eq_true rfl⟩ [some 0] (of_decide_eq_true rfl) (of_decide_eq_true rfl) rfl rfl rfl (fun H locs hP hD hS => ?_)
  refine lv_iconst (v := (-1)) hx hb dX12_newNumber_52 zci_m1 ?_
  obtain ⟨h_21, hfn⟩ := zg_s hfn
  refine va_iast hx hb hK hP hD hS 5 4 rfl rfl h_21 dX12_newNumber_53 (fun H locs hP hD hS => ?_)
  have hP : va_P (dC, dI) vwCl [(h0, .inr (12, zO a0 b0 c0)), zVi (a0 17) k1 2 f1, zVi (a0 18) k2 28 (upd f2 o_2.toNatClampNeg p1), zVi (a0 19) k3 28 (upd f3 o_7.toNatClampNeg p2), zVi (a0 20) k4 28 (upd f4 o_12.toNatClampNeg (-1)), zVi (a0 21) k5 28 (upd f5 o_17.toNatClampNeg (-1)), zVi (a0 25) k6 28 f6, zVi (a0 26) k7 28 f7, zVi (a0 27) k8 28 f8] H := hP
  have hD := zDW hD hP rfl
  refine lv_aload_n hx hb dX12_newNumber_54 rfl (lv_at hl 1 rfl) ?_
  refine va_get (D := (dC, dI)) (ci := 12) (v := .ref (a0 25)) (C := RX12) (T := TX12) (N := 67) hx hb hts zn_X12_newNumber_X12 hown hK hP 0 rfl rfl 25 (of_decide_eq_true rfl) (hts (.fieldLink RX12 87 "ShortEnoughModel" "fixedAs" "[I") zw_X12_newNumber_948) (fun _ h9 => h9) rfl dX12_newNumber_55 ?_
  refine lv_aload_n hx hb dX12_newNumber_58 rfl (lv_at hl 1 rfl) ?_
  refine lv_iload_n hx hb dX12_newNumber_59 rfl (lv_at hl 0 rfl) ?_
  obtain ⟨o_22, hqo_22, hfn⟩ := zb_s hfn
  refine zcVi (ci := 12) (rest := [.ref (a0 25)]) (pc' := 63) (ws' := [(h0, .inr (12, zO a0 b0 c0)), zVi (a0 17) k1 2 f1, zVi (a0 18) k2 28 (upd f2 o_2.toNatClampNeg p1), zVi (a0 19) k3 28 (upd f3 o_7.toNatClampNeg p2), zVi (a0 20) k4 28 (upd f4 o_12.toNatClampNeg (-1)), zVi (a0 21) k5 28 (upd f5 o_17.toNatClampNeg (-1)), zVi (a0 25) k6 28 f6, zVi (a0 26) k7 28 f7, zVi (a0 27) k8 28 f8]) hP hK hD hS hA ⟨hx, hb, hml, hown, hts⟩ (zf_X12_n l dC dI h0 (f1 (b0 11).toNatClampNeg) a0 b0 c0 o_22 hqo_22 H.size) (cwV 1 hts gX12_newNumber_X12_n rfl rfl rfl zhd_X12_n ⟨Nat.le_of_ble_eq_true rfl, Nat.le_of_ble_eq_true rfl⟩) [0] rfl (of_decide_eq_true rfl) [] rfl rfl rfl rfl hl.1 rfl (Nat.le_of_ble_eq_true rfl) dX12_newNumber_60 ⟨Nat.le_of_ble_eq_true rfl, Nat.le_of_ble_eq_true rfl⟩ [some 0] (of_decide_eq_true rfl) (of_decide_eq_true rfl) rfl rfl rfl (fun H locs hP hD hS => ?_)
  refine lv_iconst (v := (-1)) hx hb dX12_newNumber_63 zci_m1 ?_
  obtain ⟨h_26, hfn⟩ := zg_s hfn
  refine va_iast hx hb hK hP hD hS 6 5 rfl rfl h_26 dX12_newNumber_64 (fun H locs hP hD hS => ?_)
  have hP : va_P (dC, dI) vwCl [(h0, .inr (12, zO a0 b0 c0)), zVi (a0 17) k1 2 f1, zVi (a0 18) k2 28 (upd f2 o_2.toNatClampNeg p1), zVi (a0 19) k3 28 (upd f3 o_7.toNatClampNeg p2), zVi (a0 20) k4 28 (upd f4 o_12.toNatClampNeg (-1)), zVi (a0 21) k5 28 (upd f5 o_17.toNatClampNeg (-1)), zVi (a0 25) k6 28 (upd f6 o_22.toNatClampNeg (-1)), zVi (a0 26) k7 28 f7, zVi (a0 27) k8 28 f8] H := hP
  have hD := zDW hD hP rfl
  refine lv_aload_n hx hb dX12_newNumber_65 rfl (lv_at hl 1 rfl) ?_
  refine va_get (D := (dC, dI)) (ci := 12) (v := .ref (a0 26)) (C := RX12) (T := TX12) (N := 67) hx hb hts zn_X12_newNumber_X12 hown hK hP 0 rfl rfl 26 (of_decide_eq_true rfl) (hts (.fieldLink RX12 90 "ShortEnoughModel" "within" "[I") zw_X12_newNumber_949) (fun _ h9 => h9) rfl dX12_newNumber_66 ?_
  refine lv_aload_n hx hb dX12_newNumber_69 rfl (lv_at hl 1 rfl) ?_
  refine lv_iload_n hx hb dX12_newNumber_70 rfl (lv_at hl 0 rfl) ?_
  obtain ⟨o_27, hqo_27, hfn⟩ := zb_s hfn
  refine zcVi (ci := 12) (rest := [.ref (a0 26)]) (pc' := 74) (ws' := [(h0, .inr (12, zO a0 b0 c0)), zVi (a0 17) k1 2 f1, zVi (a0 18) k2 28 (upd f2 o_2.toNatClampNeg p1), zVi (a0 19) k3 28 (upd f3 o_7.toNatClampNeg p2), zVi (a0 20) k4 28 (upd f4 o_12.toNatClampNeg (-1)), zVi (a0 21) k5 28 (upd f5 o_17.toNatClampNeg (-1)), zVi (a0 25) k6 28 (upd f6 o_22.toNatClampNeg (-1)), zVi (a0 26) k7 28 f7, zVi (a0 27) k8 28 f8]) hP hK hD hS hA ⟨hx, hb, hml, hown, hts⟩ (zf_X12_n l dC dI h0 (f1 (b0 11).toNatClampNeg) a0 b0 c0 o_27 hqo_27 H.size) (cwV 1 hts gX12_newNumber_X12_n rfl rfl rfl zhd_X12_n ⟨Nat.le_of_ble_eq_true rfl, Nat.le_of_ble_eq_true rfl⟩) [0] rfl (of_decide_eq_true rfl) [] rfl rfl rfl rfl hl.1 rfl (Nat.le_of_ble_eq_true rfl) dX12_newNumber_71 ⟨Nat.le_of_ble_eq_true rfl, Nat.le_of_ble_eq_true rfl⟩ [some 0] (of_decide_eq_true rfl) (of_decide_eq_true rfl) rfl rfl rfl (fun H locs hP hD hS => ?_)
  refine lv_iconst (v := (-1)) hx hb dX12_newNumber_74 zci_m1 ?_
  obtain ⟨h_31, hfn⟩ := zg_s hfn
  refine va_iast hx hb hK hP hD hS 7 6 rfl rfl h_31 dX12_newNumber_75 (fun H locs hP hD hS => ?_)
  have hP : va_P (dC, dI) vwCl [(h0, .inr (12, zO a0 b0 c0)), zVi (a0 17) k1 2 f1, zVi (a0 18) k2 28 (upd f2 o_2.toNatClampNeg p1), zVi (a0 19) k3 28 (upd f3 o_7.toNatClampNeg p2), zVi (a0 20) k4 28 (upd f4 o_12.toNatClampNeg (-1)), zVi (a0 21) k5 28 (upd f5 o_17.toNatClampNeg (-1)), zVi (a0 25) k6 28 (upd f6 o_22.toNatClampNeg (-1)), zVi (a0 26) k7 28 (upd f7 o_27.toNatClampNeg (-1)), zVi (a0 27) k8 28 f8] H := hP
  have hD := zDW hD hP rfl
  refine lv_aload_n hx hb dX12_newNumber_76 rfl (lv_at hl 1 rfl) ?_
  refine va_get (D := (dC, dI)) (ci := 12) (v := .ref (a0 27)) (C := RX12) (T := TX12) (N := 67) hx hb hts zn_X12_newNumber_X12 hown hK hP 0 rfl rfl 27 (of_decide_eq_true rfl) (hts (.fieldLink RX12 93 "ShortEnoughModel" "groupOf" "[I") zw_X12_newNumber_950) (fun _ h9 => h9) rfl dX12_newNumber_77 ?_
  refine lv_aload_n hx hb dX12_newNumber_80 rfl (lv_at hl 1 rfl) ?_
  refine lv_iload_n hx hb dX12_newNumber_81 rfl (lv_at hl 0 rfl) ?_
  obtain ⟨o_32, hqo_32, hfn⟩ := zb_s hfn
  refine zcVi (ci := 12) (rest := [.ref (a0 27)]) (pc' := 85) (ws' := [(h0, .inr (12, zO a0 b0 c0)), zVi (a0 17) k1 2 f1, zVi (a0 18) k2 28 (upd f2 o_2.toNatClampNeg p1), zVi (a0 19) k3 28 (upd f3 o_7.toNatClampNeg p2), zVi (a0 20) k4 28 (upd f4 o_12.toNatClampNeg (-1)), zVi (a0 21) k5 28 (upd f5 o_17.toNatClampNeg (-1)), zVi (a0 25) k6 28 (upd f6 o_22.toNatClampNeg (-1)), zVi (a0 26) k7 28 (upd f7 o_27.toNatClampNeg (-1)), zVi (a0 27) k8 28 f8]) hP hK hD hS hA ⟨hx, hb, hml, hown, hts⟩ (zf_X12_n l dC dI h0 (f1 (b0 11).toNatClampNeg) a0 b0 c0 o_32 hqo_32 H.size) (cwV 1 hts gX12_newNumber_X12_n rfl rfl rfl zhd_X12_n ⟨Nat.le_of_ble_eq_true rfl, Nat.le_of_ble_eq_true rfl⟩) [0] rfl (of_decide_eq_true rfl) [] rfl rfl rfl rfl hl.1 rfl (Nat.le_of_ble_eq_true rfl) dX12_newNumber_82 ⟨Nat.le_of_ble_eq_true rfl, Nat.le_of_ble_eq_true rfl⟩ [some 0] (of_decide_eq_true rfl) (of_decide_eq_true rfl) rfl rfl rfl (fun H locs hP hD hS => ?_)
  refine lv_iload_n hx hb dX12_newNumber_85 rfl (lv_at hl 0 rfl) ?_
  obtain ⟨h_36, hfn⟩ := zg_s hfn
  refine va_iast hx hb hK hP hD hS 8 7 rfl rfl h_36 dX12_newNumber_86 (fun H locs hP hD hS => ?_)
  have hP : va_P (dC, dI) vwCl [(h0, .inr (12, zO a0 b0 c0)), zVi (a0 17) k1 2 f1, zVi (a0 18) k2 28 (upd f2 o_2.toNatClampNeg p1), zVi (a0 19) k3 28 (upd f3 o_7.toNatClampNeg p2), zVi (a0 20) k4 28 (upd f4 o_12.toNatClampNeg (-1)), zVi (a0 21) k5 28 (upd f5 o_17.toNatClampNeg (-1)), zVi (a0 25) k6 28 (upd f6 o_22.toNatClampNeg (-1)), zVi (a0 26) k7 28 (upd f7 o_27.toNatClampNeg (-1)), zVi (a0 27) k8 28 (upd f8 o_32.toNatClampNeg (f1 (b0 11).toNatClampNeg))] H := hP
  have hD := zDW hD hP rfl
  have ho := Option.some.inj hfn
  subst ho
  exact zrv hx hb hr hK hP hD hS hQ trivial hlocks dX12_newNumber_87
theorem zw_X12_readsInput_951 : Cond.constantLong RX12 298 (-10000000) ∈ wsX12_readsInput := List.mem_of_getElem? (i := 1) (by decide +kernel)
theorem zw_X12_readsInput_952 : Cond.constantLong RX12 300 (10000000) ∈ wsX12_readsInput := List.mem_of_getElem? (i := 2) (by decide +kernel)
theorem zn_X12_readsInput_X12 : ∀ w ∈ wsX120, w ∈ wsX12_readsInput := fun _ h => List.mem_cons_of_mem _ (List.mem_append_right _ h)
theorem zw_X12_readsInput_954 : Cond.fieldLink RX12 32 "ShortEnoughModel" "begun" "I" ∈ wsX12_readsInput := List.mem_of_getElem? (i := 3) (by decide +kernel)
theorem zw_X12_readsInput_955 : Cond.fieldLink RX12 77 "ShortEnoughModel" "firstV" "[J" ∈ wsX12_readsInput := List.mem_of_getElem? (i := 4) (by decide +kernel)
theorem zw_X12_readsInput_956 : Cond.fieldLink RX12 62 "ShortEnoughModel" "numbers" "[I" ∈ wsX12_readsInput := List.mem_of_getElem? (i := 5) (by decide +kernel)
theorem zw_X12_readsInput_957 : Cond.fieldLink RX12 44 "ShortEnoughModel" "in" "I" ∈ wsX12_readsInput := List.mem_of_getElem? (i := 6) (by decide +kernel)
theorem zw_X12_readsInput_958 : Cond.fieldLink RX12 81 "ShortEnoughModel" "secondV" "[J" ∈ wsX12_readsInput := List.mem_of_getElem? (i := 7) (by decide +kernel)
set_option maxHeartbeats 4000000 in
set_option maxRecDepth 100000 in
theorem zf_X12_readsInput (l : Launch) (dC : Nat → ClassId) (dI : Nat → Nat → Nat) (h0 : Nat) (a0 : Nat → Nat) (b0 : Nat → Int32) (c0 : Nat → Int64) (k1 : Nat) (f1 : Nat → Int32) (k2 : Nat) (f2 : Nat → Int32) (k3 : Nat) (f3 : Nat → Int32) (k4 : Nat) (f4 : Nat → Int32) (k5 : Nat) (f5 : Nat → Int32) (k6 : Nat) (f6 : Nat → Int32) (k7 : Nat) (f7 : Nat → Int32) (k8 : Nat) (f8 : Nat → Int32) (k9 : Nat) (f9 : Nat → Int32) (k10 : Nat) (f10 : Nat → Int32) (k11 : Nat) (f11 : Nat → Int32) (k12 : Nat) (f12 : Nat → Int32) (k13 : Nat) (f13 : Nat → Int64) (k14 : Nat) (f14 : Nat → Int64) (o : Int32 × Int32 × Int32 × Int32 × (Nat → Int32) × (Nat → Int32) × (Nat → Int32) × (Nat → Int32) × (Nat → Int32) × (Nat → Int32) × (Nat → Int32) × (Nat → Int32) × (Nat → Int64) × (Nat → Int64)) (hfn : fn_X12_readsInput (b0 5) (b0 6) (b0 7) (b0 8) (b0 9) (b0 11) f1 f2 f3 f4 f5 f6 f7 f8 f9 f10 f11 f12 f13 f14 = some o) (sz : Nat) : zMv l yX12_readsInput wsX12_readsInput ({ frames := 5, cells := 0, slots := 0, locals := 105 }) (dC, dI) vwCl [.ref h0] [(h0, .inr (12, zO a0 b0 c0)), zVi (a0 0) k1 1200 f1, zVi (a0 10) k2 71 f2, zVi (a0 12) k3 2 f3, zVi (a0 13) k4 8 f4, zVi (a0 17) k5 2 f5, zVi (a0 18) k6 28 f6, zVi (a0 19) k7 28 f7, zVi (a0 20) k8 28 f8, zVi (a0 21) k9 28 f9, zVi (a0 25) k10 28 f10, zVi (a0 26) k11 28 f11, zVi (a0 27) k12 28 f12, zVl (a0 22) k13 28 f13, zVl (a0 23) k14 28 f14] [(k1, .int), (k2, .int), (k3, .int), (k4, .int), (k5, .int), (k6, .int), (k7, .int), (k8, .int), (k9, .int), (k10, .int), (k11, .int), (k12, .int), (k13, .long), (k14, .long)] (fun _ => True) [(h0, .inr (12, zO a0 (zI (zI (zI (zI b0 6 o.1) 7 o.2.1) 8 o.2.2.1) 9 o.2.2.2.1) c0)), zVi (a0 0) k1 1200 f1, zVi (a0 10) k2 71 f2, zVi (a0 12) k3 2 f3, zVi (a0 13) k4 8 f4, zVi (a0 17) k5 2 o.2.2.2.2.1, zVi (a0 18) k6 28 o.2.2.2.2.2.1, zVi (a0 19) k7 28 o.2.2.2.2.2.2.1, zVi (a0 20) k8 28 o.2.2.2.2.2.2.2.1, zVi (a0 21) k9 28 o.2.2.2.2.2.2.2.2.1, zVi (a0 25) k10 28 o.2.2.2.2.2.2.2.2.2.1, zVi (a0 26) k11 28 o.2.2.2.2.2.2.2.2.2.2.1, zVi (a0 27) k12 28 o.2.2.2.2.2.2.2.2.2.2.2.1, zVl (a0 22) k13 28 o.2.2.2.2.2.2.2.2.2.2.2.2.1, zVl (a0 23) k14 28 o.2.2.2.2.2.2.2.2.2.2.2.2.2] [(k1, .int), (k2, .int), (k3, .int), (k4, .int), (k5, .int), (k6, .int), (k7, .int), (k8, .int), (k9, .int), (k10, .int), (k11, .int), (k12, .int), (k13, .long), (k14, .long)] sz := by
  refine zgov (cc := cX12_readsInput) (maxL := 6) (ret := none) (C0 := RX12) (lv0 := [(0, .ref h0)]) zpl_X12 rfl rfl rfl (Nat.le_of_ble_eq_true rfl) ?_
  intro p e s m below meth c A ls Q hx hb hr hts hown hlocks hml hP hK hD hA hS hl hQ
  unfold fn_X12_readsInput at hfn
  refine lv_aload_n hx hb dX12_readsInput_0 rfl (lv_at hl 0 rfl) ?_
  obtain ⟨o_1, hqo_1, hfn⟩ := zb_s hfn
  refine zcVi (ci := 12) (rest := []) (pc' := 4) (ws' := [(h0, .inr (12, zO a0 (zI (zI (zI (zI b0 6 o_1.2.1) 7 o_1.2.2.1) 8 o_1.2.2.2.1) 9 o_1.2.2.2.2) c0)), zVi (a0 0) k1 1200 f1, zVi (a0 10) k2 71 f2, zVi (a0 12) k3 2 f3, zVi (a0 13) k4 8 f4, zVi (a0 17) k5 2 f5, zVi (a0 18) k6 28 f6, zVi (a0 19) k7 28 f7, zVi (a0 20) k8 28 f8, zVi (a0 21) k9 28 f9, zVi (a0 25) k10 28 f10, zVi (a0 26) k11 28 f11, zVi (a0 27) k12 28 f12, zVl (a0 22) k13 28 f13, zVl (a0 23) k14 28 f14]) hP hK hD hS hA ⟨hx, hb, hml, hown, hts⟩ (zf_X12_newName l dC dI h0 a0 b0 c0 k1 f1 k2 f2 k3 f3 k4 f4 k5 f5 k6 f6 o_1 hqo_1 s.heap.size) (cwV 0 hts gX12_readsInput_X12_newName rfl rfl rfl zhd_X12_newName ⟨Nat.le_of_ble_eq_true rfl, Nat.le_of_ble_eq_true rfl⟩) [0, 1, 2, 3, 4, 5, 6] rfl (of_decide_eq_true rfl) [0, 1, 2, 3, 4, 5] rfl rfl rfl rfl hl.1 rfl (Nat.le_of_ble_eq_true rfl) dX12_readsInput_1 ⟨Nat.le_of_ble_eq_true rfl, Nat.le_of_ble_eq_true rfl⟩ [some 0, some 1, some 2, some 3, some 4, some 5, some 6] (of_decide_eq_true rfl) (of_decide_eq_true rfl) rfl rfl rfl (fun H locs hP hD hS => ?_)
  refine lv_istore_n (lv' := [(1, .int o_1.1), (0, .ref h0)]) hx hb dX12_readsInput_4 rfl hl (of_decide_eq_true rfl) rfl (fun ls hl => ?_)
  refine lv_aload_n hx hb dX12_readsInput_5 rfl (lv_at hl 1 rfl) ?_
  refine lv_ldc2 (v := (-10000000)) hx hb hown (hts (.constantLong RX12 298 (-10000000)) zw_X12_readsInput_951) dX12_readsInput_6 ?_
  refine lv_ldc2 (v := 10000000) hx hb hown (hts (.constantLong RX12 300 (10000000)) zw_X12_readsInput_952) dX12_readsInput_9 ?_
  obtain ⟨o_5, hqo_5, hfn⟩ := zb_s hfn
  refine zcVl (ci := 12) (rest := []) (pc' := 15) (ws' := [(h0, .inr (12, zO a0 (zI (zI (zI (zI b0 6 o_5.2.1) 7 o_5.2.2.1) 8 o_5.2.2.2.1) 9 o_5.2.2.2.2) c0)), zVi (a0 0) k1 1200 f1, zVi (a0 10) k2 71 f2, zVi (a0 12) k3 2 f3, zVi (a0 13) k4 8 f4, zVi (a0 17) k5 2 f5, zVi (a0 18) k6 28 f6, zVi (a0 19) k7 28 f7, zVi (a0 20) k8 28 f8, zVi (a0 21) k9 28 f9, zVi (a0 25) k10 28 f10, zVi (a0 26) k11 28 f11, zVi (a0 27) k12 28 f12, zVl (a0 22) k13 28 f13, zVl (a0 23) k14 28 f14]) hP hK hD hS hA ⟨hx, hb, hml, hown, hts⟩ (zf_X12_signed l dC dI h0 ((-10000000) : Int64) (10000000 : Int64) a0 (zI (zI (zI (zI b0 6 o_1.2.1) 7 o_1.2.2.1) 8 o_1.2.2.2.1) 9 o_1.2.2.2.2) c0 k1 f1 o_5 hqo_5 H.size) (cwV 2 hts gX12_readsInput_X12_signed rfl rfl rfl zhd_X12_signed ⟨Nat.le_of_ble_eq_true rfl, Nat.le_of_ble_eq_true rfl⟩) [0, 1] rfl (of_decide_eq_true rfl) [0] rfl rfl rfl rfl hl.1 rfl (Nat.le_of_ble_eq_true rfl) dX12_readsInput_12 ⟨Nat.le_of_ble_eq_true rfl, Nat.le_of_ble_eq_true rfl⟩ [some 0, some 1] (of_decide_eq_true rfl) (of_decide_eq_true rfl) rfl rfl rfl (fun H locs hP hD hS => ?_)
  refine lv_lstore_n (lv' := [(2, .long o_5.1), (1, .int o_1.1), (0, .ref h0)]) hx hb dX12_readsInput_15 rfl hl (of_decide_eq_true rfl) rfl (fun ls hl => ?_)
  refine lv_aload_n hx hb dX12_readsInput_16 rfl (lv_at hl 2 rfl) ?_
  refine lv_ldc2 (v := (-10000000)) hx hb hown (hts (.constantLong RX12 298 (-10000000)) zw_X12_readsInput_951) dX12_readsInput_17 ?_
  refine lv_ldc2 (v := 10000000) hx hb hown (hts (.constantLong RX12 300 (10000000)) zw_X12_readsInput_952) dX12_readsInput_20 ?_
  obtain ⟨o_9, hqo_9, hfn⟩ := zb_s hfn
  refine zcVl (ci := 12) (rest := []) (pc' := 26) (ws' := [(h0, .inr (12, zO a0 (zI (zI (zI (zI b0 6 o_9.2.1) 7 o_9.2.2.1) 8 o_9.2.2.2.1) 9 o_9.2.2.2.2) c0)), zVi (a0 0) k1 1200 f1, zVi (a0 10) k2 71 f2, zVi (a0 12) k3 2 f3, zVi (a0 13) k4 8 f4, zVi (a0 17) k5 2 f5, zVi (a0 18) k6 28 f6, zVi (a0 19) k7 28 f7, zVi (a0 20) k8 28 f8, zVi (a0 21) k9 28 f9, zVi (a0 25) k10 28 f10, zVi (a0 26) k11 28 f11, zVi (a0 27) k12 28 f12, zVl (a0 22) k13 28 f13, zVl (a0 23) k14 28 f14]) hP hK hD hS hA ⟨hx, hb, hml, hown, hts⟩ (zf_X12_signed l dC dI h0 ((-10000000) : Int64) (10000000 : Int64) a0 (zI (zI (zI (zI b0 6 o_5.2.1) 7 o_5.2.2.1) 8 o_5.2.2.2.1) 9 o_5.2.2.2.2) c0 k1 f1 o_9 hqo_9 H.size) (cwV 2 hts gX12_readsInput_X12_signed rfl rfl rfl zhd_X12_signed ⟨Nat.le_of_ble_eq_true rfl, Nat.le_of_ble_eq_true rfl⟩) [0, 1] rfl (of_decide_eq_true rfl) [0] rfl rfl rfl rfl hl.1 rfl (Nat.le_of_ble_eq_true rfl) dX12_readsInput_23 ⟨Nat.le_of_ble_eq_true rfl, Nat.le_of_ble_eq_true rfl⟩ [some 0, some 1] (of_decide_eq_true rfl) (of_decide_eq_true rfl) rfl rfl rfl (fun H locs hP hD hS => ?_)
  refine lv_lstore (lv' := [(4, .long o_9.1), (2, .long o_5.1), (1, .int o_1.1), (0, .ref h0)]) hx hb dX12_readsInput_26 hl (of_decide_eq_true rfl) rfl (fun ls hl => ?_)
  refine lv_aload_n hx hb dX12_readsInput_28 rfl (lv_at hl 3 rfl) ?_
  obtain ⟨o_13, hqo_13, hfn⟩ := zb_s hfn
  refine zcVb (ci := 12) (rest := []) (pc' := 32) (ws' := [(h0, .inr (12, zO a0 (zI (zI (zI (zI b0 6 o_9.2.1) 7 o_9.2.2.1) 8 o_9.2.2.2.1) 9 o_9.2.2.2.2) c0)), zVi (a0 0) k1 1200 f1, zVi (a0 10) k2 71 f2, zVi (a0 12) k3 2 f3, zVi (a0 13) k4 8 f4, zVi (a0 17) k5 2 f5, zVi (a0 18) k6 28 f6, zVi (a0 19) k7 28 f7, zVi (a0 20) k8 28 f8, zVi (a0 21) k9 28 f9, zVi (a0 25) k10 28 f10, zVi (a0 26) k11 28 f11, zVi (a0 27) k12 28 f12, zVl (a0 22) k13 28 f13, zVl (a0 23) k14 28 f14]) hP hK hD hS hA ⟨hx, hb, hml, hown, hts⟩ (zf_X12_goesWell l dC dI h0 a0 (zI (zI (zI (zI b0 6 o_9.2.1) 7 o_9.2.2.1) 8 o_9.2.2.2.1) 9 o_9.2.2.2.2) c0 o_13 hqo_13 H.size) (cwV 0 hts gX12_readsInput_X12_goesWell rfl rfl rfl zhd_X12_goesWell ⟨Nat.le_of_ble_eq_true rfl, Nat.le_of_ble_eq_true rfl⟩) [0] rfl (of_decide_eq_true rfl) [] rfl rfl rfl rfl hl.1 rfl (Nat.le_of_ble_eq_true rfl) dX12_readsInput_29 ⟨Nat.le_of_ble_eq_true rfl, Nat.le_of_ble_eq_true rfl⟩ [some 0] (of_decide_eq_true rfl) (of_decide_eq_true rfl) rfl rfl rfl (fun H locs hw_16n hP hD hS => ?_)
  obtain ⟨j_17, ej_17, hfn⟩ := zj_g hfn
  have jp_17 : ∀ (s_17 : Int32 × Int32) (H : Heap) (locs : List Loc) (ls : Array Slot), j_17 s_17 = some o → va_P (dC, dI) vwCl [(h0, .inr (12, zO a0 (zI (zI (zI (zI b0 6 o_9.2.1) 7 o_9.2.2.1) 8 s_17.1) 9 s_17.2) c0)), zVi (a0 0) k1 1200 f1, zVi (a0 10) k2 71 f2, zVi (a0 12) k3 2 f3, zVi (a0 13) k4 8 f4, zVi (a0 17) k5 2 f5, zVi (a0 18) k6 28 f6, zVi (a0 19) k7 28 f7, zVi (a0 20) k8 28 f8, zVi (a0 21) k9 28 f9, zVi (a0 25) k10 28 f10, zVi (a0 26) k11 28 f11, zVi (a0 27) k12 28 f12, zVl (a0 22) k13 28 f13, zVl (a0 23) k14 28 f14] H → va_D A [(h0, .inr (12, zO a0 (zI (zI (zI (zI b0 6 o_9.2.1) 7 o_9.2.2.1) 8 s_17.1) 9 s_17.2) c0)), zVi (a0 0) k1 1200 f1, zVi (a0 10) k2 71 f2, zVi (a0 12) k3 2 f3, zVi (a0 13) k4 8 f4, zVi (a0 17) k5 2 f5, zVi (a0 18) k6 28 f6, zVi (a0 19) k7 28 f7, zVi (a0 20) k8 28 f8, zVi (a0 21) k9 28 f9, zVi (a0 25) k10 28 f10, zVi (a0 26) k11 28 f11, zVi (a0 27) k12 28 f12, zVl (a0 22) k13 28 f13, zVl (a0 23) k14 28 f14] → va_S A s.heap H locs → lv_has ls 6 [(4, .long o_9.1), (2, .long o_5.1), (1, .int o_1.1), (0, .ref h0)] → W p l e (headSpec wsX12_readsInput ({ frames := 5, cells := 0, slots := 0, locals := 105 })).room s m ([.ref h0] : List Value).toArray below meth c H locs 0 0 Q (F0 m 51 ls []) := by
    intro s_17 H locs ls hfn hP hD hS hl
    have hfn := zj_s ej_17 hfn
    refine lv_aload_n hx hb dX12_readsInput_51 rfl (lv_at hl 3 rfl) ?_
    obtain ⟨o_18, hqo_18, hfn⟩ := zb_s hfn
    refine zcVb (ci := 12) (rest := []) (pc' := 55) (ws' := [(h0, .inr (12, zO a0 (zI (zI (zI (zI b0 6 o_9.2.1) 7 o_9.2.2.1) 8 s_17.1) 9 s_17.2) c0)), zVi (a0 0) k1 1200 f1, zVi (a0 10) k2 71 f2, zVi (a0 12) k3 2 f3, zVi (a0 13) k4 8 f4, zVi (a0 17) k5 2 f5, zVi (a0 18) k6 28 f6, zVi (a0 19) k7 28 f7, zVi (a0 20) k8 28 f8, zVi (a0 21) k9 28 f9, zVi (a0 25) k10 28 f10, zVi (a0 26) k11 28 f11, zVi (a0 27) k12 28 f12, zVl (a0 22) k13 28 f13, zVl (a0 23) k14 28 f14]) hP hK hD hS hA ⟨hx, hb, hml, hown, hts⟩ (zf_X12_goesWell l dC dI h0 a0 (zI (zI (zI (zI b0 6 o_9.2.1) 7 o_9.2.2.1) 8 s_17.1) 9 s_17.2) c0 o_18 hqo_18 H.size) (cwV 0 hts gX12_readsInput_X12_goesWell rfl rfl rfl zhd_X12_goesWell ⟨Nat.le_of_ble_eq_true rfl, Nat.le_of_ble_eq_true rfl⟩) [0] rfl (of_decide_eq_true rfl) [] rfl rfl rfl rfl hl.1 rfl (Nat.le_of_ble_eq_true rfl) dX12_readsInput_52 ⟨Nat.le_of_ble_eq_true rfl, Nat.le_of_ble_eq_true rfl⟩ [some 0] (of_decide_eq_true rfl) (of_decide_eq_true rfl) rfl rfl rfl (fun H locs hw_21n hP hD hS => ?_)
    refine lv_if_ne (tgt := 59) hx hb dX12_readsInput_55 (of_decide_eq_true rfl) (fun c_22 => ?_) (fun c_22 => ?_)
    · have hfn := (if_neg c_22).symm.trans hfn
      refine lv_aload_n hx hb dX12_readsInput_59 rfl (lv_at hl 3 rfl) ?_
      refine lv_iload_n hx hb dX12_readsInput_60 rfl (lv_at hl 2 rfl) ?_
      refine lv_iconst (v := 0) hx hb dX12_readsInput_61 zci_0 ?_
      obtain ⟨o_23, hqo_23, hfn⟩ := zb_s hfn
      refine zcVv (ci := 12) (rest := []) (pc' := 65) (ws' := [(h0, .inr (12, zO a0 (zI (zI (zI (zI b0 6 o_9.2.1) 7 o_9.2.2.1) 8 s_17.1) 9 s_17.2) c0)), zVi (a0 0) k1 1200 f1, zVi (a0 10) k2 71 f2, zVi (a0 12) k3 2 f3, zVi (a0 13) k4 8 f4, zVi (a0 17) k5 2 f5, zVi (a0 18) k6 28 o_23.1, zVi (a0 19) k7 28 o_23.2.1, zVi (a0 20) k8 28 o_23.2.2.1, zVi (a0 21) k9 28 o_23.2.2.2.1, zVi (a0 25) k10 28 o_23.2.2.2.2.1, zVi (a0 26) k11 28 o_23.2.2.2.2.2.1, zVi (a0 27) k12 28 o_23.2.2.2.2.2.2, zVl (a0 22) k13 28 f13, zVl (a0 23) k14 28 f14]) hP hK hD hS hA ⟨hx, hb, hml, hown, hts⟩ (zf_X12_newNumber l dC dI h0 o_1.1 0 a0 (zI (zI (zI (zI b0 6 o_9.2.1) 7 o_9.2.2.1) 8 s_17.1) 9 s_17.2) c0 k5 f5 k6 f6 k7 f7 k8 f8 k9 f9 k10 f10 k11 f11 k12 f12 o_23 hqo_23 H.size) (cwV 2 hts gX12_readsInput_X12_newNumber rfl rfl rfl zhd_X12_newNumber ⟨Nat.le_of_ble_eq_true rfl, Nat.le_of_ble_eq_true rfl⟩) [0, 5, 6, 7, 8, 9, 10, 11, 12] rfl (of_decide_eq_true rfl) [4, 5, 6, 7, 8, 9, 10, 11] rfl rfl rfl rfl hl.1 rfl (Nat.le_of_ble_eq_true rfl) dX12_readsInput_62 ⟨Nat.le_of_ble_eq_true rfl, Nat.le_of_ble_eq_true rfl⟩ [some 0, none, none, none, none, some 1, some 2, some 3, some 4, some 5, some 6, some 7, some 8] (of_decide_eq_true rfl) (of_decide_eq_true rfl) rfl rfl rfl (fun H locs hP hD hS => ?_)
      refine lv_aload_n hx hb dX12_readsInput_65 rfl (lv_at hl 3 rfl) ?_
      refine va_get (D := (dC, dI)) (ci := 12) (v := .ref (a0 22)) (C := RX12) (T := TX12) (N := 67) hx hb hts zn_X12_readsInput_X12 hown hK hP 0 rfl rfl 22 (of_decide_eq_true rfl) (hts (.fieldLink RX12 77 "ShortEnoughModel" "firstV" "[J") zw_X12_readsInput_955) (fun _ h9 => h9) rfl dX12_readsInput_66 ?_
      refine lv_aload_n hx hb dX12_readsInput_69 rfl (lv_at hl 3 rfl) ?_
      refine lv_aload_n hx hb dX12_readsInput_70 rfl (lv_at hl 3 rfl) ?_
      refine va_get (D := (dC, dI)) (ci := 12) (v := .ref (a0 17)) (C := RX12) (T := TX12) (N := 67) hx hb hts zn_X12_readsInput_X12 hown hK hP 0 rfl rfl 17 (of_decide_eq_true rfl) (hts (.fieldLink RX12 62 "ShortEnoughModel" "numbers" "[I") zw_X12_readsInput_956) (fun _ h9 => h9) rfl dX12_readsInput_71 ?_
      refine lv_aload_n hx hb dX12_readsInput_74 rfl (lv_at hl 3 rfl) ?_
      refine va_get (D := (dC, dI)) (ci := 12) (v := .int (b0 11)) (C := RX12) (T := TX12) (N := 67) hx hb hts zn_X12_readsInput_X12 hown hK hP 0 rfl rfl 11 (of_decide_eq_true rfl) (hts (.fieldLink RX12 44 "ShortEnoughModel" "in" "I") zw_X12_readsInput_957) (fun _ h9 => h9) rfl dX12_readsInput_75 ?_
      obtain ⟨h_27, hfn⟩ := zg_s hfn
      refine va_iald hx hb hK hP 5 4 rfl rfl h_27 dX12_readsInput_78 ?_
      obtain ⟨o_28, hqo_28, hfn⟩ := zb_s hfn
      refine zcVi (ci := 12) (rest := [.ref (a0 22)]) (pc' := 82) (ws' := [(h0, .inr (12, zO a0 (zI (zI (zI (zI b0 6 o_9.2.1) 7 o_9.2.2.1) 8 s_17.1) 9 s_17.2) c0)), zVi (a0 0) k1 1200 f1, zVi (a0 10) k2 71 f2, zVi (a0 12) k3 2 f3, zVi (a0 13) k4 8 f4, zVi (a0 17) k5 2 f5, zVi (a0 18) k6 28 o_23.1, zVi (a0 19) k7 28 o_23.2.1, zVi (a0 20) k8 28 o_23.2.2.1, zVi (a0 21) k9 28 o_23.2.2.2.1, zVi (a0 25) k10 28 o_23.2.2.2.2.1, zVi (a0 26) k11 28 o_23.2.2.2.2.2.1, zVi (a0 27) k12 28 o_23.2.2.2.2.2.2, zVl (a0 22) k13 28 f13, zVl (a0 23) k14 28 f14]) hP hK hD hS hA ⟨hx, hb, hml, hown, hts⟩ (zf_X12_n l dC dI h0 (f5 (b0 11).toNatClampNeg) a0 (zI (zI (zI (zI b0 6 o_9.2.1) 7 o_9.2.2.1) 8 s_17.1) 9 s_17.2) c0 o_28 hqo_28 H.size) (cwV 1 hts gX12_readsInput_X12_n rfl rfl rfl zhd_X12_n ⟨Nat.le_of_ble_eq_true rfl, Nat.le_of_ble_eq_true rfl⟩) [0] rfl (of_decide_eq_true rfl) [] rfl rfl rfl rfl hl.1 rfl (Nat.le_of_ble_eq_true rfl) dX12_readsInput_79 ⟨Nat.le_of_ble_eq_true rfl, Nat.le_of_ble_eq_true rfl⟩ [some 0] (of_decide_eq_true rfl) (of_decide_eq_true rfl) rfl rfl rfl (fun H locs hP hD hS => ?_)
      refine lv_lload_n hx hb dX12_readsInput_82 rfl (lv_at hl 1 rfl) ?_
      obtain ⟨h_32, hfn⟩ := zg_s hfn
      refine va_last hx hb hK hP hD hS 13 12 rfl rfl h_32 dX12_readsInput_83 (fun H locs hP hD hS => ?_)
      have hP : va_P (dC, dI) vwCl [(h0, .inr (12, zO a0 (zI (zI (zI (zI b0 6 o_9.2.1) 7 o_9.2.2.1) 8 s_17.1) 9 s_17.2) c0)), zVi (a0 0) k1 1200 f1, zVi (a0 10) k2 71 f2, zVi (a0 12) k3 2 f3, zVi (a0 13) k4 8 f4, zVi (a0 17) k5 2 f5, zVi (a0 18) k6 28 o_23.1, zVi (a0 19) k7 28 o_23.2.1, zVi (a0 20) k8 28 o_23.2.2.1, zVi (a0 21) k9 28 o_23.2.2.2.1, zVi (a0 25) k10 28 o_23.2.2.2.2.1, zVi (a0 26) k11 28 o_23.2.2.2.2.2.1, zVi (a0 27) k12 28 o_23.2.2.2.2.2.2, zVl (a0 22) k13 28 (vp_updL f13 o_28.toNatClampNeg o_5.1), zVl (a0 23) k14 28 f14] H := hP
      have hD := zDW hD hP rfl
      refine lv_aload_n hx hb dX12_readsInput_84 rfl (lv_at hl 3 rfl) ?_
      refine va_get (D := (dC, dI)) (ci := 12) (v := .ref (a0 23)) (C := RX12) (T := TX12) (N := 67) hx hb hts zn_X12_readsInput_X12 hown hK hP 0 rfl rfl 23 (of_decide_eq_true rfl) (hts (.fieldLink RX12 81 "ShortEnoughModel" "secondV" "[J") zw_X12_readsInput_958) (fun _ h9 => h9) rfl dX12_readsInput_85 ?_
      refine lv_aload_n hx hb dX12_readsInput_88 rfl (lv_at hl 3 rfl) ?_
      refine lv_aload_n hx hb dX12_readsInput_89 rfl (lv_at hl 3 rfl) ?_
      refine va_get (D := (dC, dI)) (ci := 12) (v := .ref (a0 17)) (C := RX12) (T := TX12) (N := 67) hx hb hts zn_X12_readsInput_X12 hown hK hP 0 rfl rfl 17 (of_decide_eq_true rfl) (hts (.fieldLink RX12 62 "ShortEnoughModel" "numbers" "[I") zw_X12_readsInput_956) (fun _ h9 => h9) rfl dX12_readsInput_90 ?_
      refine lv_aload_n hx hb dX12_readsInput_93 rfl (lv_at hl 3 rfl) ?_
      refine va_get (D := (dC, dI)) (ci := 12) (v := .int (b0 11)) (C := RX12) (T := TX12) (N := 67) hx hb hts zn_X12_readsInput_X12 hown hK hP 0 rfl rfl 11 (of_decide_eq_true rfl) (hts (.fieldLink RX12 44 "ShortEnoughModel" "in" "I") zw_X12_readsInput_957) (fun _ h9 => h9) rfl dX12_readsInput_94 ?_
      refine va_iald hx hb hK hP 5 4 rfl rfl h_27 dX12_readsInput_97 ?_
      obtain ⟨o_33, hqo_33, hfn⟩ := zb_s hfn
      refine zcVi (ci := 12) (rest := [.ref (a0 23)]) (pc' := 101) (ws' := [(h0, .inr (12, zO a0 (zI (zI (zI (zI b0 6 o_9.2.1) 7 o_9.2.2.1) 8 s_17.1) 9 s_17.2) c0)), zVi (a0 0) k1 1200 f1, zVi (a0 10) k2 71 f2, zVi (a0 12) k3 2 f3, zVi (a0 13) k4 8 f4, zVi (a0 17) k5 2 f5, zVi (a0 18) k6 28 o_23.1, zVi (a0 19) k7 28 o_23.2.1, zVi (a0 20) k8 28 o_23.2.2.1, zVi (a0 21) k9 28 o_23.2.2.2.1, zVi (a0 25) k10 28 o_23.2.2.2.2.1, zVi (a0 26) k11 28 o_23.2.2.2.2.2.1, zVi (a0 27) k12 28 o_23.2.2.2.2.2.2, zVl (a0 22) k13 28 (vp_updL f13 o_28.toNatClampNeg o_5.1), zVl (a0 23) k14 28 f14]) hP hK hD hS hA ⟨hx, hb, hml, hown, hts⟩ (zf_X12_n l dC dI h0 (f5 (b0 11).toNatClampNeg) a0 (zI (zI (zI (zI b0 6 o_9.2.1) 7 o_9.2.2.1) 8 s_17.1) 9 s_17.2) c0 o_33 hqo_33 H.size) (cwV 1 hts gX12_readsInput_X12_n rfl rfl rfl zhd_X12_n ⟨Nat.le_of_ble_eq_true rfl, Nat.le_of_ble_eq_true rfl⟩) [0] rfl (of_decide_eq_true rfl) [] rfl rfl rfl rfl hl.1 rfl (Nat.le_of_ble_eq_true rfl) dX12_readsInput_98 ⟨Nat.le_of_ble_eq_true rfl, Nat.le_of_ble_eq_true rfl⟩ [some 0] (of_decide_eq_true rfl) (of_decide_eq_true rfl) rfl rfl rfl (fun H locs hP hD hS => ?_)
      refine lv_lload hx hb dX12_readsInput_101 (lv_at hl 0 rfl) ?_
      obtain ⟨h_37, hfn⟩ := zg_s hfn
      refine va_last hx hb hK hP hD hS 14 13 rfl rfl h_37 dX12_readsInput_103 (fun H locs hP hD hS => ?_)
      have hP : va_P (dC, dI) vwCl [(h0, .inr (12, zO a0 (zI (zI (zI (zI b0 6 o_9.2.1) 7 o_9.2.2.1) 8 s_17.1) 9 s_17.2) c0)), zVi (a0 0) k1 1200 f1, zVi (a0 10) k2 71 f2, zVi (a0 12) k3 2 f3, zVi (a0 13) k4 8 f4, zVi (a0 17) k5 2 f5, zVi (a0 18) k6 28 o_23.1, zVi (a0 19) k7 28 o_23.2.1, zVi (a0 20) k8 28 o_23.2.2.1, zVi (a0 21) k9 28 o_23.2.2.2.1, zVi (a0 25) k10 28 o_23.2.2.2.2.1, zVi (a0 26) k11 28 o_23.2.2.2.2.2.1, zVi (a0 27) k12 28 o_23.2.2.2.2.2.2, zVl (a0 22) k13 28 (vp_updL f13 o_28.toNatClampNeg o_5.1), zVl (a0 23) k14 28 (vp_updL f14 o_33.toNatClampNeg o_9.1)] H := hP
      have hD := zDW hD hP rfl
      refine lv_aload_n hx hb dX12_readsInput_104 rfl (lv_at hl 3 rfl) ?_
      refine va_get (D := (dC, dI)) (ci := 12) (v := .ref (a0 17)) (C := RX12) (T := TX12) (N := 67) hx hb hts zn_X12_readsInput_X12 hown hK hP 0 rfl rfl 17 (of_decide_eq_true rfl) (hts (.fieldLink RX12 62 "ShortEnoughModel" "numbers" "[I") zw_X12_readsInput_956) (fun _ h9 => h9) rfl dX12_readsInput_105 ?_
      refine lv_aload_n hx hb dX12_readsInput_108 rfl (lv_at hl 3 rfl) ?_
      refine va_get (D := (dC, dI)) (ci := 12) (v := .int (b0 11)) (C := RX12) (T := TX12) (N := 67) hx hb hts zn_X12_readsInput_X12 hown hK hP 0 rfl rfl 11 (of_decide_eq_true rfl) (hts (.fieldLink RX12 44 "ShortEnoughModel" "in" "I") zw_X12_readsInput_957) (fun _ h9 => h9) rfl dX12_readsInput_109 ?_
      refine lv_dup2_11 hx hb dX12_readsInput_112 rfl rfl ?_
      refine va_iald hx hb hK hP 5 4 rfl rfl h_27 dX12_readsInput_113 ?_
      refine lv_iconst (v := 1) hx hb dX12_readsInput_114 zci_1 ?_
      refine lv_iadd hx hb dX12_readsInput_115 ?_
      refine va_iast hx hb hK hP hD hS 5 4 rfl rfl h_27 dX12_readsInput_116 (fun H locs hP hD hS => ?_)
      have hP : va_P (dC, dI) vwCl [(h0, .inr (12, zO a0 (zI (zI (zI (zI b0 6 o_9.2.1) 7 o_9.2.2.1) 8 s_17.1) 9 s_17.2) c0)), zVi (a0 0) k1 1200 f1, zVi (a0 10) k2 71 f2, zVi (a0 12) k3 2 f3, zVi (a0 13) k4 8 f4, zVi (a0 17) k5 2 (upd f5 (b0 11).toNatClampNeg ((f5 (b0 11).toNatClampNeg) + 1)), zVi (a0 18) k6 28 o_23.1, zVi (a0 19) k7 28 o_23.2.1, zVi (a0 20) k8 28 o_23.2.2.1, zVi (a0 21) k9 28 o_23.2.2.2.1, zVi (a0 25) k10 28 o_23.2.2.2.2.1, zVi (a0 26) k11 28 o_23.2.2.2.2.2.1, zVi (a0 27) k12 28 o_23.2.2.2.2.2.2, zVl (a0 22) k13 28 (vp_updL f13 o_28.toNatClampNeg o_5.1), zVl (a0 23) k14 28 (vp_updL f14 o_33.toNatClampNeg o_9.1)] H := hP
      have hD := zDW hD hP rfl
      have ho := Option.some.inj hfn
      subst ho
      exact zrv hx hb hr hK hP hD hS hQ trivial hlocks dX12_readsInput_117
    have hfn := (if_pos c_22).symm.trans hfn
    have ho := Option.some.inj hfn
    subst ho
    exact zrv hx hb hr hK hP hD hS hQ trivial hlocks dX12_readsInput_58
  refine lv_if_eq (tgt := 51) hx hb dX12_readsInput_32 (of_decide_eq_true rfl) (fun c_38 => ?_) (fun c_38 => ?_)
  · have hfn := (if_pos c_38).symm.trans hfn
    exact jp_17 (o_9.2.2.2.1, o_9.2.2.2.2) H locs ls hfn hP hD hS (lv_sub hl [0, 1, 2, 3] rfl)
  have hfn := (if_neg c_38).symm.trans hfn
  refine lv_lload hx hb dX12_readsInput_35 (lv_at hl 0 rfl) ?_
  refine lv_lload_n hx hb dX12_readsInput_37 rfl (lv_at hl 1 rfl) ?_
  refine W.lcmp hx hb dX12_readsInput_38 ?_
  refine lv_if_ge (tgt := 51) hx hb dX12_readsInput_39 (of_decide_eq_true rfl) (fun c_39 => ?_) (fun c_39 => ?_)
  · have hfn := (if_pos c_39).symm.trans hfn
    exact jp_17 (o_9.2.2.2.1, o_9.2.2.2.2) H locs ls hfn hP hD hS (lv_sub hl [0, 1, 2, 3] rfl)
  have hfn := (if_neg c_39).symm.trans hfn
  refine lv_aload_n hx hb dX12_readsInput_42 rfl (lv_at hl 3 rfl) ?_
  refine lv_iconst (v := 2) hx hb dX12_readsInput_43 zci_2 ?_
  refine lv_aload_n hx hb dX12_readsInput_44 rfl (lv_at hl 3 rfl) ?_
  refine va_get (D := (dC, dI)) (ci := 12) (v := .int o_9.2.2.1) (C := RX12) (T := TX12) (N := 67) hx hb hts zn_X12_readsInput_X12 hown hK hP 0 rfl rfl 7 (of_decide_eq_true rfl) (hts (.fieldLink RX12 32 "ShortEnoughModel" "begun" "I") zw_X12_readsInput_954) (fun _ h9 => h9) rfl dX12_readsInput_45 ?_
  obtain ⟨o_40, hqo_40, hfn⟩ := zb_s hfn
  refine zcVv (ci := 12) (rest := []) (pc' := 51) (ws' := [(h0, .inr (12, zO a0 (zI (zI (zI (zI b0 6 o_9.2.1) 7 o_9.2.2.1) 8 o_40.1) 9 o_40.2) c0)), zVi (a0 0) k1 1200 f1, zVi (a0 10) k2 71 f2, zVi (a0 12) k3 2 f3, zVi (a0 13) k4 8 f4, zVi (a0 17) k5 2 f5, zVi (a0 18) k6 28 f6, zVi (a0 19) k7 28 f7, zVi (a0 20) k8 28 f8, zVi (a0 21) k9 28 f9, zVi (a0 25) k10 28 f10, zVi (a0 26) k11 28 f11, zVi (a0 27) k12 28 f12, zVl (a0 22) k13 28 f13, zVl (a0 23) k14 28 f14]) hP hK hD hS hA ⟨hx, hb, hml, hown, hts⟩ (zf_X12_faults l dC dI h0 2 o_9.2.2.1 a0 (zI (zI (zI (zI b0 6 o_9.2.1) 7 o_9.2.2.1) 8 o_9.2.2.2.1) 9 o_9.2.2.2.2) c0 o_40 hqo_40 H.size) (cwV 2 hts gX12_readsInput_X12_faults rfl rfl rfl zhd_X12_faults ⟨Nat.le_of_ble_eq_true rfl, Nat.le_of_ble_eq_true rfl⟩) [0] rfl (of_decide_eq_true rfl) [] rfl rfl rfl rfl hl.1 rfl (Nat.le_of_ble_eq_true rfl) dX12_readsInput_48 ⟨Nat.le_of_ble_eq_true rfl, Nat.le_of_ble_eq_true rfl⟩ [some 0] (of_decide_eq_true rfl) (of_decide_eq_true rfl) rfl rfl rfl (fun H locs hP hD hS => ?_)
  exact jp_17 (o_40.1, o_40.2) H locs ls hfn hP hD hS (lv_sub hl [0, 1, 2, 3] rfl)
theorem zn_X12_readsWhat_X12 : ∀ w ∈ wsX120, w ∈ wsX12_readsWhat := fun _ h => List.mem_cons_of_mem _ (List.mem_append_right _ h)
theorem zw_X12_readsWhat_960 : Cond.fieldLink RX12 96 "ShortEnoughModel" "whatV" "J" ∈ wsX12_readsWhat := List.mem_of_getElem? (i := 1) (by decide +kernel)
theorem zw_X12_readsWhat_961 : Cond.constantLong RX12 308 (-1000000) ∈ wsX12_readsWhat := List.mem_of_getElem? (i := 3) (by decide +kernel)
theorem zw_X12_readsWhat_962 : Cond.constantLong RX12 288 (1000000) ∈ wsX12_readsWhat := List.mem_of_getElem? (i := 4) (by decide +kernel)
theorem zw_X12_readsWhat_963 : Cond.fieldLink RX12 29 "ShortEnoughModel" "at" "I" ∈ wsX12_readsWhat := List.mem_of_getElem? (i := 2) (by decide +kernel)
set_option maxHeartbeats 4000000 in
set_option maxRecDepth 100000 in
theorem zf_X12_readsWhat (l : Launch) (dC : Nat → ClassId) (dI : Nat → Nat → Nat) (h0 : Nat) (a0 : Nat → Nat) (b0 : Nat → Int32) (c0 : Nat → Int64) (k1 : Nat) (f1 : Nat → Int32) (k2 : Nat) (f2 : Nat → Int32) (k3 : Nat) (f3 : Nat → Int32) (k4 : Nat) (f4 : Nat → Int32) (o : Int32 × Int64 × Int32 × Int32 × Int32 × Int32) (hfn : fn_X12_readsWhat (b0 5) (b0 6) (b0 7) (b0 8) (b0 9) (b0 11) f1 f2 f3 f4 = some o) (sz : Nat) : zMi l yX12_readsWhat wsX12_readsWhat ({ frames := 5, cells := 0, slots := 0, locals := 106 }) (dC, dI) vwCl [.ref h0] [(h0, .inr (12, zO a0 b0 c0)), zVi (a0 0) k1 1200 f1, zVi (a0 10) k2 71 f2, zVi (a0 17) k3 2 f3, zVi (a0 18) k4 28 f4] [(k1, .int), (k2, .int), (k3, .int), (k4, .int)] (fun r _ => r = o.1) [(h0, .inr (12, zO a0 (zI (zI (zI (zI b0 6 o.2.2.1) 7 o.2.2.2.1) 8 o.2.2.2.2.1) 9 o.2.2.2.2.2) (zJ c0 28 o.2.1))), zVi (a0 0) k1 1200 f1, zVi (a0 10) k2 71 f2, zVi (a0 17) k3 2 f3, zVi (a0 18) k4 28 f4] [(k1, .int), (k2, .int), (k3, .int), (k4, .int)] sz := by
  refine zgoi (cc := cX12_readsWhat) (maxL := 1) (ret := (some .int)) (C0 := RX12) (lv0 := [(0, .ref h0)]) zpl_X12 rfl rfl rfl (Nat.le_of_ble_eq_true rfl) ?_
  intro p e s m below meth c A ls Q hx hb hr hts hown hlocks hml hP hK hD hA hS hl hQ
  unfold fn_X12_readsWhat at hfn
  refine lv_aload_n hx hb dX12_readsWhat_0 rfl (lv_at hl 0 rfl) ?_
  refine lv_lconst (v := 0) hx hb dX12_readsWhat_1 (by decide +kernel) ?_
  refine va_put (D := (dC, dI)) (ci := 12) (v := .long 0) (ty := .long) (C := RX12) (T := TX12) (N := 67) hx hb hts zn_X12_readsWhat_X12 tyX12 tyX12_ok nmX12 hown hK hP hD hS 0 rfl rfl 28 (of_decide_eq_true rfl) (hts (.fieldLink RX12 96 "ShortEnoughModel" "whatV" "J") zw_X12_readsWhat_960) (fun _ h9 => h9) rfl (tyX12_ok 28 (of_decide_eq_true rfl)) rfl rfl (Nat.le_of_ble_eq_true rfl) dX12_readsWhat_2 (fun H locs hP hD hS => ?_)
  have hP : va_P (dC, dI) vwCl [(h0, .inr (12, zO a0 b0 (zJ c0 28 0))), zVi (a0 0) k1 1200 f1, zVi (a0 10) k2 71 f2, zVi (a0 17) k3 2 f3, zVi (a0 18) k4 28 f4] H := hP
  have hD := zDW hD hP rfl
  refine lv_aload_n hx hb dX12_readsWhat_5 rfl (lv_at hl 0 rfl) ?_
  obtain ⟨o_1, hqo_1, hfn⟩ := zb_s hfn
  refine zcVb (ci := 12) (rest := []) (pc' := 9) (ws' := [(h0, .inr (12, zO a0 b0 (zJ c0 28 0))), zVi (a0 0) k1 1200 f1, zVi (a0 10) k2 71 f2, zVi (a0 17) k3 2 f3, zVi (a0 18) k4 28 f4]) hP hK hD hS hA ⟨hx, hb, hml, hown, hts⟩ (zf_X12_goesWell l dC dI h0 a0 b0 (zJ c0 28 0) o_1 hqo_1 H.size) (cwV 0 hts gX12_readsWhat_X12_goesWell rfl rfl rfl zhd_X12_goesWell ⟨Nat.le_of_ble_eq_true rfl, Nat.le_of_ble_eq_true rfl⟩) [0] rfl (of_decide_eq_true rfl) [] rfl rfl rfl rfl hl.1 rfl (Nat.le_of_ble_eq_true rfl) dX12_readsWhat_6 ⟨Nat.le_of_ble_eq_true rfl, Nat.le_of_ble_eq_true rfl⟩ [some 0] (of_decide_eq_true rfl) (of_decide_eq_true rfl) rfl rfl rfl (fun H locs hw_4n hP hD hS => ?_)
  refine lv_if_eq (tgt := 48) hx hb dX12_readsWhat_9 (of_decide_eq_true rfl) (fun c_5 => ?_) (fun c_5 => ?_)
  · have hfn := (if_pos c_5).symm.trans hfn
    refine lv_aload_n hx hb dX12_readsWhat_48 rfl (lv_at hl 0 rfl) ?_
    obtain ⟨o_6, hqo_6, hfn⟩ := zb_s hfn
    refine zcVi (ci := 12) (rest := []) (pc' := 52) (ws' := [(h0, .inr (12, zO a0 (zI (zI (zI (zI b0 6 o_6.2.1) 7 o_6.2.2.1) 8 o_6.2.2.2.1) 9 o_6.2.2.2.2) (zJ c0 28 0))), zVi (a0 0) k1 1200 f1, zVi (a0 10) k2 71 f2, zVi (a0 17) k3 2 f3, zVi (a0 18) k4 28 f4]) hP hK hD hS hA ⟨hx, hb, hml, hown, hts⟩ (zf_X12_toldNumber l dC dI h0 a0 b0 (zJ c0 28 0) k1 f1 k2 f2 k3 f3 k4 f4 o_6 hqo_6 H.size) (cwV 0 hts gX12_readsWhat_X12_toldNumber rfl rfl rfl zhd_X12_toldNumber ⟨Nat.le_of_ble_eq_true rfl, Nat.le_of_ble_eq_true rfl⟩) [0, 1, 2, 3, 4] rfl (of_decide_eq_true rfl) [0, 1, 2, 3] rfl rfl rfl rfl hl.1 rfl (Nat.le_of_ble_eq_true rfl) dX12_readsWhat_49 ⟨Nat.le_of_ble_eq_true rfl, Nat.le_of_ble_eq_true rfl⟩ [some 0, some 1, some 2, some 3, some 4] (of_decide_eq_true rfl) (of_decide_eq_true rfl) rfl rfl rfl (fun H locs hP hD hS => ?_)
    have ho := Option.some.inj hfn
    subst ho
    exact zri hx hb hr hK hP hD hS hQ rfl hlocks dX12_readsWhat_52
  have hfn := (if_neg c_5).symm.trans hfn
  refine lv_aload_n hx hb dX12_readsWhat_12 rfl (lv_at hl 0 rfl) ?_
  obtain ⟨o_10, hqo_10, hfn⟩ := zb_s hfn
  refine zcVi (ci := 12) (rest := []) (pc' := 16) (ws' := [(h0, .inr (12, zO a0 (zI b0 6 o_10.2) (zJ c0 28 0))), zVi (a0 0) k1 1200 f1, zVi (a0 10) k2 71 f2, zVi (a0 17) k3 2 f3, zVi (a0 18) k4 28 f4]) hP hK hD hS hA ⟨hx, hb, hml, hown, hts⟩ (zf_X12_here l dC dI h0 a0 b0 (zJ c0 28 0) k1 f1 o_10 hqo_10 H.size) (cwV 0 hts gX12_readsWhat_X12_here rfl rfl rfl zhd_X12_here ⟨Nat.le_of_ble_eq_true rfl, Nat.le_of_ble_eq_true rfl⟩) [0, 1] rfl (of_decide_eq_true rfl) [0] rfl rfl rfl rfl hl.1 rfl (Nat.le_of_ble_eq_true rfl) dX12_readsWhat_13 ⟨Nat.le_of_ble_eq_true rfl, Nat.le_of_ble_eq_true rfl⟩ [some 0, some 1] (of_decide_eq_true rfl) (of_decide_eq_true rfl) rfl rfl rfl (fun H locs hP hD hS => ?_)
  refine lv_bipush (v := 45) hx hb dX12_readsWhat_16 zcb_45 ?_
  refine lv_icmp_eq (tgt := 32) hx hb dX12_readsWhat_18 (of_decide_eq_true rfl) (fun c_14 => ?_) (fun c_14 => ?_)
  · have hfn := (if_pos c_14).symm.trans hfn
    refine lv_aload_n hx hb dX12_readsWhat_32 rfl (lv_at hl 0 rfl) ?_
    refine lv_aload_n hx hb dX12_readsWhat_33 rfl (lv_at hl 0 rfl) ?_
    refine lv_ldc2 (v := (-1000000)) hx hb hown (hts (.constantLong RX12 308 (-1000000)) zw_X12_readsWhat_961) dX12_readsWhat_34 ?_
    refine lv_ldc2 (v := 1000000) hx hb hown (hts (.constantLong RX12 288 (1000000)) zw_X12_readsWhat_962) dX12_readsWhat_37 ?_
    obtain ⟨o_15, hqo_15, hfn⟩ := zb_s hfn
    refine zcVl (ci := 12) (rest := [.ref h0]) (pc' := 43) (ws' := [(h0, .inr (12, zO a0 (zI (zI (zI (zI b0 6 o_15.2.1) 7 o_15.2.2.1) 8 o_15.2.2.2.1) 9 o_15.2.2.2.2) (zJ c0 28 0))), zVi (a0 0) k1 1200 f1, zVi (a0 10) k2 71 f2, zVi (a0 17) k3 2 f3, zVi (a0 18) k4 28 f4]) hP hK hD hS hA ⟨hx, hb, hml, hown, hts⟩ (zf_X12_signed l dC dI h0 ((-1000000) : Int64) (1000000 : Int64) a0 (zI b0 6 o_10.2) (zJ c0 28 0) k1 f1 o_15 hqo_15 H.size) (cwV 2 hts gX12_readsWhat_X12_signed rfl rfl rfl zhd_X12_signed ⟨Nat.le_of_ble_eq_true rfl, Nat.le_of_ble_eq_true rfl⟩) [0, 1] rfl (of_decide_eq_true rfl) [0] rfl rfl rfl rfl hl.1 rfl (Nat.le_of_ble_eq_true rfl) dX12_readsWhat_40 ⟨Nat.le_of_ble_eq_true rfl, Nat.le_of_ble_eq_true rfl⟩ [some 0, some 1] (of_decide_eq_true rfl) (of_decide_eq_true rfl) rfl rfl rfl (fun H locs hP hD hS => ?_)
    refine va_put (D := (dC, dI)) (ci := 12) (v := .long o_15.1) (ty := .long) (C := RX12) (T := TX12) (N := 67) hx hb hts zn_X12_readsWhat_X12 tyX12 tyX12_ok nmX12 hown hK hP hD hS 0 rfl rfl 28 (of_decide_eq_true rfl) (hts (.fieldLink RX12 96 "ShortEnoughModel" "whatV" "J") zw_X12_readsWhat_960) (fun _ h9 => h9) rfl (tyX12_ok 28 (of_decide_eq_true rfl)) rfl rfl (Nat.le_of_ble_eq_true rfl) dX12_readsWhat_43 (fun H locs hP hD hS => ?_)
    have hP : va_P (dC, dI) vwCl [(h0, .inr (12, zO a0 (zI (zI (zI (zI b0 6 o_15.2.1) 7 o_15.2.2.1) 8 o_15.2.2.2.1) 9 o_15.2.2.2.2) (zJ c0 28 o_15.1))), zVi (a0 0) k1 1200 f1, zVi (a0 10) k2 71 f2, zVi (a0 17) k3 2 f3, zVi (a0 18) k4 28 f4] H := hP
    have hD := zDW hD hP rfl
    refine lv_iconst (v := (-1)) hx hb dX12_readsWhat_46 zci_m1 ?_
    have ho := Option.some.inj hfn
    subst ho
    exact zri hx hb hr hK hP hD hS hQ rfl hlocks dX12_readsWhat_47
  have hfn := (if_neg c_14).symm.trans hfn
  refine lv_aload_n hx hb dX12_readsWhat_21 rfl (lv_at hl 0 rfl) ?_
  refine lv_aload_n hx hb dX12_readsWhat_22 rfl (lv_at hl 0 rfl) ?_
  refine va_get (D := (dC, dI)) (ci := 12) (v := .int o_10.2) (C := RX12) (T := TX12) (N := 67) hx hb hts zn_X12_readsWhat_X12 hown hK hP 0 rfl rfl 6 (of_decide_eq_true rfl) (hts (.fieldLink RX12 29 "ShortEnoughModel" "at" "I") zw_X12_readsWhat_963) (fun _ h9 => h9) rfl dX12_readsWhat_23 ?_
  obtain ⟨o_19, hqo_19, hfn⟩ := zb_s hfn
  refine zcVb (ci := 12) (rest := []) (pc' := 29) (ws' := [(h0, .inr (12, zO a0 (zI b0 6 o_10.2) (zJ c0 28 0))), zVi (a0 0) k1 1200 f1, zVi (a0 10) k2 71 f2, zVi (a0 17) k3 2 f3, zVi (a0 18) k4 28 f4]) hP hK hD hS hA ⟨hx, hb, hml, hown, hts⟩ (zf_X12_isDigit l dC dI h0 o_10.2 a0 (zI b0 6 o_10.2) (zJ c0 28 0) k1 f1 o_19 hqo_19 H.size) (cwV 1 hts gX12_readsWhat_X12_isDigit rfl rfl rfl zhd_X12_isDigit ⟨Nat.le_of_ble_eq_true rfl, Nat.le_of_ble_eq_true rfl⟩) [0, 1] rfl (of_decide_eq_true rfl) [0] rfl rfl rfl rfl hl.1 rfl (Nat.le_of_ble_eq_true rfl) dX12_readsWhat_26 ⟨Nat.le_of_ble_eq_true rfl, Nat.le_of_ble_eq_true rfl⟩ [some 0, some 1] (of_decide_eq_true rfl) (of_decide_eq_true rfl) rfl rfl rfl (fun H locs hw_22n hP hD hS => ?_)
  refine lv_if_eq (tgt := 48) hx hb dX12_readsWhat_29 (of_decide_eq_true rfl) (fun c_23 => ?_) (fun c_23 => ?_)
  · have hfn := (if_pos c_23).symm.trans hfn
    refine lv_aload_n hx hb dX12_readsWhat_48 rfl (lv_at hl 0 rfl) ?_
    obtain ⟨o_24, hqo_24, hfn⟩ := zb_s hfn
    refine zcVi (ci := 12) (rest := []) (pc' := 52) (ws' := [(h0, .inr (12, zO a0 (zI (zI (zI (zI b0 6 o_24.2.1) 7 o_24.2.2.1) 8 o_24.2.2.2.1) 9 o_24.2.2.2.2) (zJ c0 28 0))), zVi (a0 0) k1 1200 f1, zVi (a0 10) k2 71 f2, zVi (a0 17) k3 2 f3, zVi (a0 18) k4 28 f4]) hP hK hD hS hA ⟨hx, hb, hml, hown, hts⟩ (zf_X12_toldNumber l dC dI h0 a0 (zI b0 6 o_10.2) (zJ c0 28 0) k1 f1 k2 f2 k3 f3 k4 f4 o_24 hqo_24 H.size) (cwV 0 hts gX12_readsWhat_X12_toldNumber rfl rfl rfl zhd_X12_toldNumber ⟨Nat.le_of_ble_eq_true rfl, Nat.le_of_ble_eq_true rfl⟩) [0, 1, 2, 3, 4] rfl (of_decide_eq_true rfl) [0, 1, 2, 3] rfl rfl rfl rfl hl.1 rfl (Nat.le_of_ble_eq_true rfl) dX12_readsWhat_49 ⟨Nat.le_of_ble_eq_true rfl, Nat.le_of_ble_eq_true rfl⟩ [some 0, some 1, some 2, some 3, some 4] (of_decide_eq_true rfl) (of_decide_eq_true rfl) rfl rfl rfl (fun H locs hP hD hS => ?_)
    have ho := Option.some.inj hfn
    subst ho
    exact zri hx hb hr hK hP hD hS hQ rfl hlocks dX12_readsWhat_52
  have hfn := (if_neg c_23).symm.trans hfn
  refine lv_aload_n hx hb dX12_readsWhat_32 rfl (lv_at hl 0 rfl) ?_
  refine lv_aload_n hx hb dX12_readsWhat_33 rfl (lv_at hl 0 rfl) ?_
  refine lv_ldc2 (v := (-1000000)) hx hb hown (hts (.constantLong RX12 308 (-1000000)) zw_X12_readsWhat_961) dX12_readsWhat_34 ?_
  refine lv_ldc2 (v := 1000000) hx hb hown (hts (.constantLong RX12 288 (1000000)) zw_X12_readsWhat_962) dX12_readsWhat_37 ?_
  obtain ⟨o_28, hqo_28, hfn⟩ := zb_s hfn
  refine zcVl (ci := 12) (rest := [.ref h0]) (pc' := 43) (ws' := [(h0, .inr (12, zO a0 (zI (zI (zI (zI b0 6 o_28.2.1) 7 o_28.2.2.1) 8 o_28.2.2.2.1) 9 o_28.2.2.2.2) (zJ c0 28 0))), zVi (a0 0) k1 1200 f1, zVi (a0 10) k2 71 f2, zVi (a0 17) k3 2 f3, zVi (a0 18) k4 28 f4]) hP hK hD hS hA ⟨hx, hb, hml, hown, hts⟩ (zf_X12_signed l dC dI h0 ((-1000000) : Int64) (1000000 : Int64) a0 (zI b0 6 o_10.2) (zJ c0 28 0) k1 f1 o_28 hqo_28 H.size) (cwV 2 hts gX12_readsWhat_X12_signed rfl rfl rfl zhd_X12_signed ⟨Nat.le_of_ble_eq_true rfl, Nat.le_of_ble_eq_true rfl⟩) [0, 1] rfl (of_decide_eq_true rfl) [0] rfl rfl rfl rfl hl.1 rfl (Nat.le_of_ble_eq_true rfl) dX12_readsWhat_40 ⟨Nat.le_of_ble_eq_true rfl, Nat.le_of_ble_eq_true rfl⟩ [some 0, some 1] (of_decide_eq_true rfl) (of_decide_eq_true rfl) rfl rfl rfl (fun H locs hP hD hS => ?_)
  refine va_put (D := (dC, dI)) (ci := 12) (v := .long o_28.1) (ty := .long) (C := RX12) (T := TX12) (N := 67) hx hb hts zn_X12_readsWhat_X12 tyX12 tyX12_ok nmX12 hown hK hP hD hS 0 rfl rfl 28 (of_decide_eq_true rfl) (hts (.fieldLink RX12 96 "ShortEnoughModel" "whatV" "J") zw_X12_readsWhat_960) (fun _ h9 => h9) rfl (tyX12_ok 28 (of_decide_eq_true rfl)) rfl rfl (Nat.le_of_ble_eq_true rfl) dX12_readsWhat_43 (fun H locs hP hD hS => ?_)
  have hP : va_P (dC, dI) vwCl [(h0, .inr (12, zO a0 (zI (zI (zI (zI b0 6 o_28.2.1) 7 o_28.2.2.1) 8 o_28.2.2.2.1) 9 o_28.2.2.2.2) (zJ c0 28 o_28.1))), zVi (a0 0) k1 1200 f1, zVi (a0 10) k2 71 f2, zVi (a0 17) k3 2 f3, zVi (a0 18) k4 28 f4] H := hP
  have hD := zDW hD hP rfl
  refine lv_iconst (v := (-1)) hx hb dX12_readsWhat_46 zci_m1 ?_
  have ho := Option.some.inj hfn
  subst ho
  exact zri hx hb hr hK hP hD hS hQ rfl hlocks dX12_readsWhat_47
theorem zn_X12_readsOp_X12 : ∀ w ∈ wsX120, w ∈ wsX12_readsOp := fun _ h => List.mem_cons_of_mem _ (List.mem_append_right _ h)
theorem zw_X12_readsOp_965 : Cond.fieldLink RX12 32 "ShortEnoughModel" "begun" "I" ∈ wsX12_readsOp := List.mem_of_getElem? (i := 2) (by decide +kernel)
theorem zw_X12_readsOp_966 : Cond.fieldLink RX12 29 "ShortEnoughModel" "at" "I" ∈ wsX12_readsOp := List.mem_of_getElem? (i := 1) (by decide +kernel)
set_option maxHeartbeats 4000000 in
set_option maxRecDepth 100000 in
theorem zf_X12_readsOp (l : Launch) (dC : Nat → ClassId) (dI : Nat → Nat → Nat) (h0 : Nat) (a0 : Nat → Nat) (b0 : Nat → Int32) (c0 : Nat → Int64) (k1 : Nat) (f1 : Nat → Int32) (k2 : Nat) (f2 : Nat → Int32) (o : Int32 × Int32 × Int32 × Int32 × Int32) (hfn : fn_X12_readsOp (b0 5) (b0 6) (b0 7) (b0 8) (b0 9) f1 f2 = some o) (sz : Nat) : zMi l yX12_readsOp wsX12_readsOp ({ frames := 3, cells := 0, slots := 0, locals := 62 }) (dC, dI) vwCl [.ref h0] [(h0, .inr (12, zO a0 b0 c0)), zVi (a0 0) k1 1200 f1, zVi (a0 10) k2 71 f2] [(k1, .int), (k2, .int)] (fun r _ => r = o.1) [(h0, .inr (12, zO a0 (zI (zI (zI (zI b0 6 o.2.1) 7 o.2.2.1) 8 o.2.2.2.1) 9 o.2.2.2.2) c0)), zVi (a0 0) k1 1200 f1, zVi (a0 10) k2 71 f2] [(k1, .int), (k2, .int)] sz := by
  refine zgoi (cc := cX12_readsOp) (maxL := 3) (ret := (some .int)) (C0 := RX12) (lv0 := [(0, .ref h0)]) zpl_X12 rfl rfl rfl (Nat.le_of_ble_eq_true rfl) ?_
  intro p e s m below meth c A ls Q hx hb hr hts hown hlocks hml hP hK hD hA hS hl hQ
  unfold fn_X12_readsOp at hfn
  refine lv_aload_n hx hb dX12_readsOp_0 rfl (lv_at hl 0 rfl) ?_
  obtain ⟨o_1, hqo_1, hfn⟩ := zb_s hfn
  refine zcVb (ci := 12) (rest := []) (pc' := 4) (ws' := [(h0, .inr (12, zO a0 b0 c0)), zVi (a0 0) k1 1200 f1, zVi (a0 10) k2 71 f2]) hP hK hD hS hA ⟨hx, hb, hml, hown, hts⟩ (zf_X12_goesWell l dC dI h0 a0 b0 c0 o_1 hqo_1 s.heap.size) (cwV 0 hts gX12_readsOp_X12_goesWell rfl rfl rfl zhd_X12_goesWell ⟨Nat.le_of_ble_eq_true rfl, Nat.le_of_ble_eq_true rfl⟩) [0] rfl (of_decide_eq_true rfl) [] rfl rfl rfl rfl hl.1 rfl (Nat.le_of_ble_eq_true rfl) dX12_readsOp_1 ⟨Nat.le_of_ble_eq_true rfl, Nat.le_of_ble_eq_true rfl⟩ [some 0] (of_decide_eq_true rfl) (of_decide_eq_true rfl) rfl rfl rfl (fun H locs hw_4n hP hD hS => ?_)
  refine lv_if_ne (tgt := 9) hx hb dX12_readsOp_4 (of_decide_eq_true rfl) (fun c_5 => ?_) (fun c_5 => ?_)
  · have hfn := (if_neg c_5).symm.trans hfn
    refine lv_aload_n hx hb dX12_readsOp_9 rfl (lv_at hl 0 rfl) ?_
    obtain ⟨o_6, hqo_6, hfn⟩ := zb_s hfn
    refine zcVi (ci := 12) (rest := []) (pc' := 13) (ws' := [(h0, .inr (12, zO a0 (zI b0 6 o_6.2) c0)), zVi (a0 0) k1 1200 f1, zVi (a0 10) k2 71 f2]) hP hK hD hS hA ⟨hx, hb, hml, hown, hts⟩ (zf_X12_here l dC dI h0 a0 b0 c0 k1 f1 o_6 hqo_6 H.size) (cwV 0 hts gX12_readsOp_X12_here rfl rfl rfl zhd_X12_here ⟨Nat.le_of_ble_eq_true rfl, Nat.le_of_ble_eq_true rfl⟩) [0, 1] rfl (of_decide_eq_true rfl) [0] rfl rfl rfl rfl hl.1 rfl (Nat.le_of_ble_eq_true rfl) dX12_readsOp_10 ⟨Nat.le_of_ble_eq_true rfl, Nat.le_of_ble_eq_true rfl⟩ [some 0, some 1] (of_decide_eq_true rfl) (of_decide_eq_true rfl) rfl rfl rfl (fun H locs hP hD hS => ?_)
    refine lv_istore_n (lv' := [(1, .int o_6.1), (0, .ref h0)]) hx hb dX12_readsOp_13 rfl hl (of_decide_eq_true rfl) rfl (fun ls hl => ?_)
    refine lv_iload_n hx hb dX12_readsOp_14 rfl (lv_at hl 0 rfl) ?_
    refine lv_bipush (v := 43) hx hb dX12_readsOp_15 zcb_43 ?_
    obtain ⟨j_10, ej_10, hfn⟩ := zj_g hfn
    have jp_10 : ∀ (s_10 : Unit) (H : Heap) (locs : List Loc) (ls : Array Slot), j_10 s_10 = some o → va_P (dC, dI) vwCl [(h0, .inr (12, zO a0 (zI b0 6 o_6.2) c0)), zVi (a0 0) k1 1200 f1, zVi (a0 10) k2 71 f2] H → va_D A [(h0, .inr (12, zO a0 (zI b0 6 o_6.2) c0)), zVi (a0 0) k1 1200 f1, zVi (a0 10) k2 71 f2] → va_S A s.heap H locs → lv_has ls 3 [(1, .int o_6.1), (0, .ref h0)] → W p l e (headSpec wsX12_readsOp ({ frames := 3, cells := 0, slots := 0, locals := 62 })).room s m ([.ref h0] : List Value).toArray below meth c H locs 0 0 Q (F0 m 32 ls []) := by
      intro s_10 H locs ls hfn hP hD hS hl
      have hfn := zj_s ej_10 hfn
      refine lv_aload_n hx hb dX12_readsOp_32 rfl (lv_at hl 1 rfl) ?_
      refine lv_dup hx hb dX12_readsOp_33 rfl ?_
      refine va_get (D := (dC, dI)) (ci := 12) (v := .int o_6.2) (C := RX12) (T := TX12) (N := 67) hx hb hts zn_X12_readsOp_X12 hown hK hP 0 rfl rfl 6 (of_decide_eq_true rfl) (hts (.fieldLink RX12 29 "ShortEnoughModel" "at" "I") zw_X12_readsOp_966) (fun _ h9 => h9) rfl dX12_readsOp_34 ?_
      refine lv_iconst (v := 1) hx hb dX12_readsOp_37 zci_1 ?_
      refine lv_iadd hx hb dX12_readsOp_38 ?_
      refine va_put (D := (dC, dI)) (ci := 12) (v := .int (o_6.2 + 1)) (ty := .int) (C := RX12) (T := TX12) (N := 67) hx hb hts zn_X12_readsOp_X12 tyX12 tyX12_ok nmX12 hown hK hP hD hS 0 rfl rfl 6 (of_decide_eq_true rfl) (hts (.fieldLink RX12 29 "ShortEnoughModel" "at" "I") zw_X12_readsOp_966) (fun _ h9 => h9) rfl (tyX12_ok 6 (of_decide_eq_true rfl)) rfl rfl (Nat.le_of_ble_eq_true rfl) dX12_readsOp_39 (fun H locs hP hD hS => ?_)
      have hP : va_P (dC, dI) vwCl [(h0, .inr (12, zO a0 (zI b0 6 (o_6.2 + 1)) c0)), zVi (a0 0) k1 1200 f1, zVi (a0 10) k2 71 f2] H := hP
      have hD := zDW hD hP rfl
      refine lv_iload_n hx hb dX12_readsOp_42 rfl (lv_at hl 0 rfl) ?_
      refine lv_bipush (v := 43) hx hb dX12_readsOp_43 zcb_43 ?_
      refine lv_icmp_ne (tgt := 52) hx hb dX12_readsOp_45 (of_decide_eq_true rfl) (fun c_11 => ?_) (fun c_11 => ?_)
      · have hfn := (if_neg c_11).symm.trans hfn
        refine lv_iload_n hx hb dX12_readsOp_52 rfl (lv_at hl 0 rfl) ?_
        refine lv_bipush (v := 45) hx hb dX12_readsOp_53 zcb_45 ?_
        refine lv_icmp_ne (tgt := 62) hx hb dX12_readsOp_55 (of_decide_eq_true rfl) (fun c_12 => ?_) (fun c_12 => ?_)
        · have hfn := (if_neg c_12).symm.trans hfn
          refine lv_iconst (v := 3) hx hb dX12_readsOp_62 zci_3 ?_
          have ho := Option.some.inj hfn
          subst ho
          exact zri hx hb hr hK hP hD hS hQ rfl hlocks dX12_readsOp_63
        have hfn := (if_pos c_12).symm.trans hfn
        refine lv_iconst (v := 2) hx hb dX12_readsOp_58 zci_2 ?_
        refine lv_goto (tgt := 63) hx hb dX12_readsOp_59 (of_decide_eq_true rfl) ?_
        have ho := Option.some.inj hfn
        subst ho
        exact zri hx hb hr hK hP hD hS hQ rfl hlocks dX12_readsOp_63
      have hfn := (if_pos c_11).symm.trans hfn
      refine lv_iconst (v := 1) hx hb dX12_readsOp_48 zci_1 ?_
      refine lv_goto (tgt := 63) hx hb dX12_readsOp_49 (of_decide_eq_true rfl) ?_
      have ho := Option.some.inj hfn
      subst ho
      exact zri hx hb hr hK hP hD hS hQ rfl hlocks dX12_readsOp_63
    refine lv_icmp_eq (tgt := 32) hx hb dX12_readsOp_17 (of_decide_eq_true rfl) (fun c_13 => ?_) (fun c_13 => ?_)
    · have hfn := (if_pos c_13).symm.trans hfn
      exact jp_10 () H locs ls hfn hP hD hS (lv_sub hl [0, 1] rfl)
    have hfn := (if_neg c_13).symm.trans hfn
    refine lv_iload_n hx hb dX12_readsOp_20 rfl (lv_at hl 0 rfl) ?_
    refine lv_bipush (v := 45) hx hb dX12_readsOp_21 zcb_45 ?_
    refine lv_icmp_eq (tgt := 32) hx hb dX12_readsOp_23 (of_decide_eq_true rfl) (fun c_14 => ?_) (fun c_14 => ?_)
    · have hfn := (if_pos c_14).symm.trans hfn
      exact jp_10 () H locs ls hfn hP hD hS (lv_sub hl [0, 1] rfl)
    have hfn := (if_neg c_14).symm.trans hfn
    refine lv_iload_n hx hb dX12_readsOp_26 rfl (lv_at hl 0 rfl) ?_
    refine lv_bipush (v := 42) hx hb dX12_readsOp_27 zcb_42 ?_
    refine lv_icmp_ne (tgt := 64) hx hb dX12_readsOp_29 (of_decide_eq_true rfl) (fun c_15 => ?_) (fun c_15 => ?_)
    · have hfn := (if_neg c_15).symm.trans hfn
      refine lv_aload_n hx hb dX12_readsOp_64 rfl (lv_at hl 1 rfl) ?_
      obtain ⟨o_16, hqo_16, hfn⟩ := zb_s hfn
      refine zcVv (ci := 12) (rest := []) (pc' := 68) (ws' := [(h0, .inr (12, zO a0 (zI (zI (zI (zI b0 6 o_16.1) 7 o_16.2.1) 8 o_16.2.2.1) 9 o_16.2.2.2) c0)), zVi (a0 0) k1 1200 f1, zVi (a0 10) k2 71 f2]) hP hK hD hS hA ⟨hx, hb, hml, hown, hts⟩ (zf_X12_word l dC dI h0 a0 (zI b0 6 o_6.2) c0 k1 f1 o_16 hqo_16 H.size) (cwV 0 hts gX12_readsOp_X12_word rfl rfl rfl zhd_X12_word ⟨Nat.le_of_ble_eq_true rfl, Nat.le_of_ble_eq_true rfl⟩) [0, 1] rfl (of_decide_eq_true rfl) [0] rfl rfl rfl rfl hl.1 rfl (Nat.le_of_ble_eq_true rfl) dX12_readsOp_65 ⟨Nat.le_of_ble_eq_true rfl, Nat.le_of_ble_eq_true rfl⟩ [some 0, some 1] (of_decide_eq_true rfl) (of_decide_eq_true rfl) rfl rfl rfl (fun H locs hP hD hS => ?_)
      refine lv_aload_n hx hb dX12_readsOp_68 rfl (lv_at hl 1 rfl) ?_
      obtain ⟨o_20, hqo_20, hfn⟩ := zb_s hfn
      refine zcVb (ci := 12) (rest := []) (pc' := 72) (ws' := [(h0, .inr (12, zO a0 (zI (zI (zI (zI b0 6 o_16.1) 7 o_16.2.1) 8 o_16.2.2.1) 9 o_16.2.2.2) c0)), zVi (a0 0) k1 1200 f1, zVi (a0 10) k2 71 f2]) hP hK hD hS hA ⟨hx, hb, hml, hown, hts⟩ (zf_X12_goesWell l dC dI h0 a0 (zI (zI (zI (zI b0 6 o_16.1) 7 o_16.2.1) 8 o_16.2.2.1) 9 o_16.2.2.2) c0 o_20 hqo_20 H.size) (cwV 0 hts gX12_readsOp_X12_goesWell rfl rfl rfl zhd_X12_goesWell ⟨Nat.le_of_ble_eq_true rfl, Nat.le_of_ble_eq_true rfl⟩) [0] rfl (of_decide_eq_true rfl) [] rfl rfl rfl rfl hl.1 rfl (Nat.le_of_ble_eq_true rfl) dX12_readsOp_69 ⟨Nat.le_of_ble_eq_true rfl, Nat.le_of_ble_eq_true rfl⟩ [some 0] (of_decide_eq_true rfl) (of_decide_eq_true rfl) rfl rfl rfl (fun H locs hw_23n hP hD hS => ?_)
      obtain ⟨j_24, ej_24, hfn⟩ := zj_g hfn
      have jp_24 : ∀ (s_24 : Int32) (H : Heap) (locs : List Loc) (ls : Array Slot), j_24 s_24 = some o → va_P (dC, dI) vwCl [(h0, .inr (12, zO a0 (zI (zI (zI (zI b0 6 o_16.1) 7 o_16.2.1) 8 o_16.2.2.1) 9 o_16.2.2.2) c0)), zVi (a0 0) k1 1200 f1, zVi (a0 10) k2 71 f2] H → va_D A [(h0, .inr (12, zO a0 (zI (zI (zI (zI b0 6 o_16.1) 7 o_16.2.1) 8 o_16.2.2.1) 9 o_16.2.2.2) c0)), zVi (a0 0) k1 1200 f1, zVi (a0 10) k2 71 f2] → va_S A s.heap H locs → lv_has ls 3 [(0, .ref h0)] → W p l e (headSpec wsX12_readsOp ({ frames := 3, cells := 0, slots := 0, locals := 62 })).room s m ([.ref h0] : List Value).toArray below meth c H locs 0 0 Q (F0 m 83 ls [.int s_24]) := by
        intro s_24 H locs ls hfn hP hD hS hl
        have hfn := zj_s ej_24 hfn
        refine lv_istore_n (lv' := [(2, .int s_24), (0, .ref h0)]) hx hb dX12_readsOp_83 rfl hl (of_decide_eq_true rfl) rfl (fun ls hl => ?_)
        refine lv_aload_n hx hb dX12_readsOp_84 rfl (lv_at hl 1 rfl) ?_
        obtain ⟨o_25, hqo_25, hfn⟩ := zb_s hfn
        refine zcVb (ci := 12) (rest := []) (pc' := 88) (ws' := [(h0, .inr (12, zO a0 (zI (zI (zI (zI b0 6 o_16.1) 7 o_16.2.1) 8 o_16.2.2.1) 9 o_16.2.2.2) c0)), zVi (a0 0) k1 1200 f1, zVi (a0 10) k2 71 f2]) hP hK hD hS hA ⟨hx, hb, hml, hown, hts⟩ (zf_X12_goesWell l dC dI h0 a0 (zI (zI (zI (zI b0 6 o_16.1) 7 o_16.2.1) 8 o_16.2.2.1) 9 o_16.2.2.2) c0 o_25 hqo_25 H.size) (cwV 0 hts gX12_readsOp_X12_goesWell rfl rfl rfl zhd_X12_goesWell ⟨Nat.le_of_ble_eq_true rfl, Nat.le_of_ble_eq_true rfl⟩) [0] rfl (of_decide_eq_true rfl) [] rfl rfl rfl rfl hl.1 rfl (Nat.le_of_ble_eq_true rfl) dX12_readsOp_85 ⟨Nat.le_of_ble_eq_true rfl, Nat.le_of_ble_eq_true rfl⟩ [some 0] (of_decide_eq_true rfl) (of_decide_eq_true rfl) rfl rfl rfl (fun H locs hw_28n hP hD hS => ?_)
        refine lv_if_eq (tgt := 112) hx hb dX12_readsOp_88 (of_decide_eq_true rfl) (fun c_29 => ?_) (fun c_29 => ?_)
        · have hfn := (if_pos c_29).symm.trans hfn
          refine lv_iload_n hx hb dX12_readsOp_112 rfl (lv_at hl 0 rfl) ?_
          refine lv_bipush (v := 7) hx hb dX12_readsOp_113 zcb_7 ?_
          refine lv_icmp_ne (tgt := 122) hx hb dX12_readsOp_115 (of_decide_eq_true rfl) (fun c_30 => ?_) (fun c_30 => ?_)
          · have hfn := (if_neg c_30).symm.trans hfn
            refine lv_iconst (v := 5) hx hb dX12_readsOp_122 zci_5 ?_
            have ho := Option.some.inj hfn
            subst ho
            exact zri hx hb hr hK hP hD hS hQ rfl hlocks dX12_readsOp_123
          have hfn := (if_pos c_30).symm.trans hfn
          refine lv_iconst (v := 4) hx hb dX12_readsOp_118 zci_4 ?_
          refine lv_goto (tgt := 123) hx hb dX12_readsOp_119 (of_decide_eq_true rfl) ?_
          have ho := Option.some.inj hfn
          subst ho
          exact zri hx hb hr hK hP hD hS hQ rfl hlocks dX12_readsOp_123
        have hfn := (if_neg c_29).symm.trans hfn
        refine lv_iload_n hx hb dX12_readsOp_91 rfl (lv_at hl 0 rfl) ?_
        refine lv_bipush (v := 7) hx hb dX12_readsOp_92 zcb_7 ?_
        refine lv_icmp_eq (tgt := 112) hx hb dX12_readsOp_94 (of_decide_eq_true rfl) (fun c_31 => ?_) (fun c_31 => ?_)
        · have hfn := (if_pos c_31).symm.trans hfn
          refine lv_iload_n hx hb dX12_readsOp_112 rfl (lv_at hl 0 rfl) ?_
          refine lv_bipush (v := 7) hx hb dX12_readsOp_113 zcb_7 ?_
          refine lv_icmp_ne (tgt := 122) hx hb dX12_readsOp_115 (of_decide_eq_true rfl) (fun c_32 => ?_) (fun c_32 => ?_)
          · have hfn := (if_neg c_32).symm.trans hfn
            refine lv_iconst (v := 5) hx hb dX12_readsOp_122 zci_5 ?_
            have ho := Option.some.inj hfn
            subst ho
            exact zri hx hb hr hK hP hD hS hQ rfl hlocks dX12_readsOp_123
          have hfn := (if_pos c_32).symm.trans hfn
          refine lv_iconst (v := 4) hx hb dX12_readsOp_118 zci_4 ?_
          refine lv_goto (tgt := 123) hx hb dX12_readsOp_119 (of_decide_eq_true rfl) ?_
          have ho := Option.some.inj hfn
          subst ho
          exact zri hx hb hr hK hP hD hS hQ rfl hlocks dX12_readsOp_123
        have hfn := (if_neg c_31).symm.trans hfn
        refine lv_iload_n hx hb dX12_readsOp_97 rfl (lv_at hl 0 rfl) ?_
        refine lv_bipush (v := 8) hx hb dX12_readsOp_98 zcb_8 ?_
        refine lv_icmp_eq (tgt := 112) hx hb dX12_readsOp_100 (of_decide_eq_true rfl) (fun c_33 => ?_) (fun c_33 => ?_)
        · have hfn := (if_pos c_33).symm.trans hfn
          refine lv_iload_n hx hb dX12_readsOp_112 rfl (lv_at hl 0 rfl) ?_
          refine lv_bipush (v := 7) hx hb dX12_readsOp_113 zcb_7 ?_
          refine lv_icmp_ne (tgt := 122) hx hb dX12_readsOp_115 (of_decide_eq_true rfl) (fun c_34 => ?_) (fun c_34 => ?_)
          · have hfn := (if_neg c_34).symm.trans hfn
            refine lv_iconst (v := 5) hx hb dX12_readsOp_122 zci_5 ?_
            have ho := Option.some.inj hfn
            subst ho
            exact zri hx hb hr hK hP hD hS hQ rfl hlocks dX12_readsOp_123
          have hfn := (if_pos c_34).symm.trans hfn
          refine lv_iconst (v := 4) hx hb dX12_readsOp_118 zci_4 ?_
          refine lv_goto (tgt := 123) hx hb dX12_readsOp_119 (of_decide_eq_true rfl) ?_
          have ho := Option.some.inj hfn
          subst ho
          exact zri hx hb hr hK hP hD hS hQ rfl hlocks dX12_readsOp_123
        have hfn := (if_neg c_33).symm.trans hfn
        refine lv_aload_n hx hb dX12_readsOp_103 rfl (lv_at hl 1 rfl) ?_
        refine lv_iconst (v := 1) hx hb dX12_readsOp_104 zci_1 ?_
        refine lv_aload_n hx hb dX12_readsOp_105 rfl (lv_at hl 1 rfl) ?_
        refine va_get (D := (dC, dI)) (ci := 12) (v := .int o_16.2.1) (C := RX12) (T := TX12) (N := 67) hx hb hts zn_X12_readsOp_X12 hown hK hP 0 rfl rfl 7 (of_decide_eq_true rfl) (hts (.fieldLink RX12 32 "ShortEnoughModel" "begun" "I") zw_X12_readsOp_965) (fun _ h9 => h9) rfl dX12_readsOp_106 ?_
        obtain ⟨o_35, hqo_35, hfn⟩ := zb_s hfn
        refine zcVv (ci := 12) (rest := []) (pc' := 112) (ws' := [(h0, .inr (12, zO a0 (zI (zI (zI (zI b0 6 o_16.1) 7 o_16.2.1) 8 o_35.1) 9 o_35.2) c0)), zVi (a0 0) k1 1200 f1, zVi (a0 10) k2 71 f2]) hP hK hD hS hA ⟨hx, hb, hml, hown, hts⟩ (zf_X12_faults l dC dI h0 1 o_16.2.1 a0 (zI (zI (zI (zI b0 6 o_16.1) 7 o_16.2.1) 8 o_16.2.2.1) 9 o_16.2.2.2) c0 o_35 hqo_35 H.size) (cwV 2 hts gX12_readsOp_X12_faults rfl rfl rfl zhd_X12_faults ⟨Nat.le_of_ble_eq_true rfl, Nat.le_of_ble_eq_true rfl⟩) [0] rfl (of_decide_eq_true rfl) [] rfl rfl rfl rfl hl.1 rfl (Nat.le_of_ble_eq_true rfl) dX12_readsOp_109 ⟨Nat.le_of_ble_eq_true rfl, Nat.le_of_ble_eq_true rfl⟩ [some 0] (of_decide_eq_true rfl) (of_decide_eq_true rfl) rfl rfl rfl (fun H locs hP hD hS => ?_)
        refine lv_iload_n hx hb dX12_readsOp_112 rfl (lv_at hl 0 rfl) ?_
        refine lv_bipush (v := 7) hx hb dX12_readsOp_113 zcb_7 ?_
        refine lv_icmp_ne (tgt := 122) hx hb dX12_readsOp_115 (of_decide_eq_true rfl) (fun c_39 => ?_) (fun c_39 => ?_)
        · have hfn := (if_neg c_39).symm.trans hfn
          refine lv_iconst (v := 5) hx hb dX12_readsOp_122 zci_5 ?_
          have ho := Option.some.inj hfn
          subst ho
          exact zri hx hb hr hK hP hD hS hQ rfl hlocks dX12_readsOp_123
        have hfn := (if_pos c_39).symm.trans hfn
        refine lv_iconst (v := 4) hx hb dX12_readsOp_118 zci_4 ?_
        refine lv_goto (tgt := 123) hx hb dX12_readsOp_119 (of_decide_eq_true rfl) ?_
        have ho := Option.some.inj hfn
        subst ho
        exact zri hx hb hr hK hP hD hS hQ rfl hlocks dX12_readsOp_123
      refine lv_if_eq (tgt := 82) hx hb dX12_readsOp_72 (of_decide_eq_true rfl) (fun c_40 => ?_) (fun c_40 => ?_)
      · have hfn := (if_pos c_40).symm.trans hfn
        refine lv_iconst (v := (-1)) hx hb dX12_readsOp_82 zci_m1 ?_
        exact jp_24 (-1) H locs ls hfn hP hD hS (lv_sub hl [1] rfl)
      have hfn := (if_neg c_40).symm.trans hfn
      refine lv_aload_n hx hb dX12_readsOp_75 rfl (lv_at hl 1 rfl) ?_
      obtain ⟨o_41, hqo_41, hfn⟩ := zb_s hfn
      refine zcVi (ci := 12) (rest := []) (pc' := 79) (ws' := [(h0, .inr (12, zO a0 (zI (zI (zI (zI b0 6 o_16.1) 7 o_16.2.1) 8 o_16.2.2.1) 9 o_16.2.2.2) c0)), zVi (a0 0) k1 1200 f1, zVi (a0 10) k2 71 f2]) hP hK hD hS hA ⟨hx, hb, hml, hown, hts⟩ (zf_X12_own l dC dI h0 a0 (zI (zI (zI (zI b0 6 o_16.1) 7 o_16.2.1) 8 o_16.2.2.1) 9 o_16.2.2.2) c0 k2 f2 k1 f1 o_41 hqo_41 H.size) (cwV 0 hts gX12_readsOp_X12_own rfl rfl rfl zhd_X12_own ⟨Nat.le_of_ble_eq_true rfl, Nat.le_of_ble_eq_true rfl⟩) [0, 2, 1] rfl (of_decide_eq_true rfl) [1, 0] rfl rfl rfl rfl hl.1 rfl (Nat.le_of_ble_eq_true rfl) dX12_readsOp_76 ⟨Nat.le_of_ble_eq_true rfl, Nat.le_of_ble_eq_true rfl⟩ [some 0, some 2, some 1] (of_decide_eq_true rfl) (of_decide_eq_true rfl) rfl rfl rfl (fun H locs hP hD hS => ?_)
      refine lv_goto (tgt := 83) hx hb dX12_readsOp_79 (of_decide_eq_true rfl) ?_
      exact jp_24 o_41 H locs ls hfn hP hD hS (lv_sub hl [1] rfl)
    have hfn := (if_pos c_15).symm.trans hfn
    exact jp_10 () H locs ls hfn hP hD hS (lv_sub hl [0, 1] rfl)
  have hfn := (if_pos c_5).symm.trans hfn
  refine lv_iconst (v := 0) hx hb dX12_readsOp_7 zci_0 ?_
  have ho := Option.some.inj hfn
  subst ho
  exact zri hx hb hr hK hP hD hS hQ rfl hlocks dX12_readsOp_8
theorem zn_X12_readsLet_X12 : ∀ w ∈ wsX120, w ∈ wsX12_readsLet := fun _ h => List.mem_cons_of_mem _ (List.mem_append_right _ h)
theorem zw_X12_readsLet_968 : Cond.fieldLink RX12 96 "ShortEnoughModel" "whatV" "J" ∈ wsX12_readsLet := List.mem_of_getElem? (i := 1) (by decide +kernel)
theorem zw_X12_readsLet_969 : Cond.fieldLink RX12 62 "ShortEnoughModel" "numbers" "[I" ∈ wsX12_readsLet := List.mem_of_getElem? (i := 2) (by decide +kernel)
theorem zw_X12_readsLet_970 : Cond.fieldLink RX12 44 "ShortEnoughModel" "in" "I" ∈ wsX12_readsLet := List.mem_of_getElem? (i := 3) (by decide +kernel)
theorem zw_X12_readsLet_971 : Cond.fieldLink RX12 71 "ShortEnoughModel" "first" "[I" ∈ wsX12_readsLet := List.mem_of_getElem? (i := 4) (by decide +kernel)
theorem zw_X12_readsLet_972 : Cond.fieldLink RX12 77 "ShortEnoughModel" "firstV" "[J" ∈ wsX12_readsLet := List.mem_of_getElem? (i := 5) (by decide +kernel)
theorem zw_X12_readsLet_973 : Cond.fieldLink RX12 74 "ShortEnoughModel" "second" "[I" ∈ wsX12_readsLet := List.mem_of_getElem? (i := 6) (by decide +kernel)
theorem zw_X12_readsLet_974 : Cond.fieldLink RX12 81 "ShortEnoughModel" "secondV" "[J" ∈ wsX12_readsLet := List.mem_of_getElem? (i := 7) (by decide +kernel)
set_option maxHeartbeats 4000000 in
set_option maxRecDepth 100000 in
theorem zf_X12_readsLet (l : Launch) (dC : Nat → ClassId) (dI : Nat → Nat → Nat) (h0 : Nat) (a0 : Nat → Nat) (b0 : Nat → Int32) (c0 : Nat → Int64) (k1 : Nat) (f1 : Nat → Int32) (k2 : Nat) (f2 : Nat → Int32) (k3 : Nat) (f3 : Nat → Int32) (k4 : Nat) (f4 : Nat → Int32) (k5 : Nat) (f5 : Nat → Int32) (k6 : Nat) (f6 : Nat → Int32) (k7 : Nat) (f7 : Nat → Int32) (k8 : Nat) (f8 : Nat → Int32) (k9 : Nat) (f9 : Nat → Int32) (k10 : Nat) (f10 : Nat → Int32) (k11 : Nat) (f11 : Nat → Int32) (k12 : Nat) (f12 : Nat → Int32) (k13 : Nat) (f13 : Nat → Int64) (k14 : Nat) (f14 : Nat → Int64) (o : Int64 × Int32 × Int32 × Int32 × Int32 × (Nat → Int32) × (Nat → Int32) × (Nat → Int32) × (Nat → Int32) × (Nat → Int32) × (Nat → Int32) × (Nat → Int32) × (Nat → Int32) × (Nat → Int64) × (Nat → Int64)) (hfn : fn_X12_readsLet (b0 5) (b0 6) (b0 7) (b0 8) (b0 9) (b0 11) f1 f2 f3 f4 f5 f6 f7 f8 f9 f10 f11 f12 f13 f14 = some o) (sz : Nat) : zMv l yX12_readsLet wsX12_readsLet ({ frames := 6, cells := 0, slots := 0, locals := 126 }) (dC, dI) vwCl [.ref h0] [(h0, .inr (12, zO a0 b0 c0)), zVi (a0 0) k1 1200 f1, zVi (a0 10) k2 71 f2, zVi (a0 12) k3 2 f3, zVi (a0 13) k4 8 f4, zVi (a0 17) k5 2 f5, zVi (a0 18) k6 28 f6, zVi (a0 19) k7 28 f7, zVi (a0 20) k8 28 f8, zVi (a0 21) k9 28 f9, zVi (a0 25) k10 28 f10, zVi (a0 26) k11 28 f11, zVi (a0 27) k12 28 f12, zVl (a0 22) k13 28 f13, zVl (a0 23) k14 28 f14] [(k1, .int), (k2, .int), (k3, .int), (k4, .int), (k5, .int), (k6, .int), (k7, .int), (k8, .int), (k9, .int), (k10, .int), (k11, .int), (k12, .int), (k13, .long), (k14, .long)] (fun _ => True) [(h0, .inr (12, zO a0 (zI (zI (zI (zI b0 6 o.2.1) 7 o.2.2.1) 8 o.2.2.2.1) 9 o.2.2.2.2.1) (zJ c0 28 o.1))), zVi (a0 0) k1 1200 f1, zVi (a0 10) k2 71 f2, zVi (a0 12) k3 2 f3, zVi (a0 13) k4 8 f4, zVi (a0 17) k5 2 o.2.2.2.2.2.1, zVi (a0 18) k6 28 o.2.2.2.2.2.2.1, zVi (a0 19) k7 28 o.2.2.2.2.2.2.2.1, zVi (a0 20) k8 28 o.2.2.2.2.2.2.2.2.1, zVi (a0 21) k9 28 o.2.2.2.2.2.2.2.2.2.1, zVi (a0 25) k10 28 o.2.2.2.2.2.2.2.2.2.2.1, zVi (a0 26) k11 28 o.2.2.2.2.2.2.2.2.2.2.2.1, zVi (a0 27) k12 28 o.2.2.2.2.2.2.2.2.2.2.2.2.1, zVl (a0 22) k13 28 o.2.2.2.2.2.2.2.2.2.2.2.2.2.1, zVl (a0 23) k14 28 o.2.2.2.2.2.2.2.2.2.2.2.2.2.2] [(k1, .int), (k2, .int), (k3, .int), (k4, .int), (k5, .int), (k6, .int), (k7, .int), (k8, .int), (k9, .int), (k10, .int), (k11, .int), (k12, .int), (k13, .long), (k14, .long)] sz := by
  refine zgov (cc := cX12_readsLet) (maxL := 10) (ret := none) (C0 := RX12) (lv0 := [(0, .ref h0)]) zpl_X12 rfl rfl rfl (Nat.le_of_ble_eq_true rfl) ?_
  intro p e s m below meth c A ls Q hx hb hr hts hown hlocks hml hP hK hD hA hS hl hQ
  unfold fn_X12_readsLet at hfn
  refine lv_aload_n hx hb dX12_readsLet_0 rfl (lv_at hl 0 rfl) ?_
  obtain ⟨o_1, hqo_1, hfn⟩ := zb_s hfn
  refine zcVi (ci := 12) (rest := []) (pc' := 4) (ws' := [(h0, .inr (12, zO a0 (zI (zI (zI (zI b0 6 o_1.2.1) 7 o_1.2.2.1) 8 o_1.2.2.2.1) 9 o_1.2.2.2.2) c0)), zVi (a0 0) k1 1200 f1, zVi (a0 10) k2 71 f2, zVi (a0 12) k3 2 f3, zVi (a0 13) k4 8 f4, zVi (a0 17) k5 2 f5, zVi (a0 18) k6 28 f6, zVi (a0 19) k7 28 f7, zVi (a0 20) k8 28 f8, zVi (a0 21) k9 28 f9, zVi (a0 25) k10 28 f10, zVi (a0 26) k11 28 f11, zVi (a0 27) k12 28 f12, zVl (a0 22) k13 28 f13, zVl (a0 23) k14 28 f14]) hP hK hD hS hA ⟨hx, hb, hml, hown, hts⟩ (zf_X12_newName l dC dI h0 a0 b0 c0 k1 f1 k2 f2 k3 f3 k4 f4 k5 f5 k6 f6 o_1 hqo_1 s.heap.size) (cwV 0 hts gX12_readsLet_X12_newName rfl rfl rfl zhd_X12_newName ⟨Nat.le_of_ble_eq_true rfl, Nat.le_of_ble_eq_true rfl⟩) [0, 1, 2, 3, 4, 5, 6] rfl (of_decide_eq_true rfl) [0, 1, 2, 3, 4, 5] rfl rfl rfl rfl hl.1 rfl (Nat.le_of_ble_eq_true rfl) dX12_readsLet_1 ⟨Nat.le_of_ble_eq_true rfl, Nat.le_of_ble_eq_true rfl⟩ [some 0, some 1, some 2, some 3, some 4, some 5, some 6] (of_decide_eq_true rfl) (of_decide_eq_true rfl) rfl rfl rfl (fun H locs hP hD hS => ?_)
  refine lv_istore_n (lv' := [(1, .int o_1.1), (0, .ref h0)]) hx hb dX12_readsLet_4 rfl hl (of_decide_eq_true rfl) rfl (fun ls hl => ?_)
  refine lv_aload_n hx hb dX12_readsLet_5 rfl (lv_at hl 1 rfl) ?_
  refine lv_bipush (v := 61) hx hb dX12_readsLet_6 zcb_61 ?_
  obtain ⟨o_5, hqo_5, hfn⟩ := zb_s hfn
  refine zcVv (ci := 12) (rest := []) (pc' := 11) (ws' := [(h0, .inr (12, zO a0 (zI (zI (zI (zI b0 6 o_5.1) 7 o_1.2.2.1) 8 o_5.2.1) 9 o_5.2.2) c0)), zVi (a0 0) k1 1200 f1, zVi (a0 10) k2 71 f2, zVi (a0 12) k3 2 f3, zVi (a0 13) k4 8 f4, zVi (a0 17) k5 2 f5, zVi (a0 18) k6 28 f6, zVi (a0 19) k7 28 f7, zVi (a0 20) k8 28 f8, zVi (a0 21) k9 28 f9, zVi (a0 25) k10 28 f10, zVi (a0 26) k11 28 f11, zVi (a0 27) k12 28 f12, zVl (a0 22) k13 28 f13, zVl (a0 23) k14 28 f14]) hP hK hD hS hA ⟨hx, hb, hml, hown, hts⟩ (zf_X12_mark l dC dI h0 61 a0 (zI (zI (zI (zI b0 6 o_1.2.1) 7 o_1.2.2.1) 8 o_1.2.2.2.1) 9 o_1.2.2.2.2) c0 k1 f1 o_5 hqo_5 H.size) (cwV 1 hts gX12_readsLet_X12_mark rfl rfl rfl zhd_X12_mark ⟨Nat.le_of_ble_eq_true rfl, Nat.le_of_ble_eq_true rfl⟩) [0, 1] rfl (of_decide_eq_true rfl) [0] rfl rfl rfl rfl hl.1 rfl (Nat.le_of_ble_eq_true rfl) dX12_readsLet_8 ⟨Nat.le_of_ble_eq_true rfl, Nat.le_of_ble_eq_true rfl⟩ [some 0, some 1] (of_decide_eq_true rfl) (of_decide_eq_true rfl) rfl rfl rfl (fun H locs hP hD hS => ?_)
  refine lv_aload_n hx hb dX12_readsLet_11 rfl (lv_at hl 1 rfl) ?_
  obtain ⟨o_9, hqo_9, hfn⟩ := zb_s hfn
  refine zcVi (ci := 12) (rest := []) (pc' := 15) (ws' := [(h0, .inr (12, zO a0 (zI (zI (zI (zI b0 6 o_9.2.2.1) 7 o_9.2.2.2.1) 8 o_9.2.2.2.2.1) 9 o_9.2.2.2.2.2) (zJ c0 28 o_9.2.1))), zVi (a0 0) k1 1200 f1, zVi (a0 10) k2 71 f2, zVi (a0 12) k3 2 f3, zVi (a0 13) k4 8 f4, zVi (a0 17) k5 2 f5, zVi (a0 18) k6 28 f6, zVi (a0 19) k7 28 f7, zVi (a0 20) k8 28 f8, zVi (a0 21) k9 28 f9, zVi (a0 25) k10 28 f10, zVi (a0 26) k11 28 f11, zVi (a0 27) k12 28 f12, zVl (a0 22) k13 28 f13, zVl (a0 23) k14 28 f14]) hP hK hD hS hA ⟨hx, hb, hml, hown, hts⟩ (zf_X12_readsWhat l dC dI h0 a0 (zI (zI (zI (zI b0 6 o_5.1) 7 o_1.2.2.1) 8 o_5.2.1) 9 o_5.2.2) c0 k1 f1 k2 f2 k5 f5 k6 f6 o_9 hqo_9 H.size) (cwV 0 hts gX12_readsLet_X12_readsWhat rfl rfl rfl zhd_X12_readsWhat ⟨Nat.le_of_ble_eq_true rfl, Nat.le_of_ble_eq_true rfl⟩) [0, 1, 2, 5, 6] rfl (of_decide_eq_true rfl) [0, 1, 4, 5] rfl rfl rfl rfl hl.1 rfl (Nat.le_of_ble_eq_true rfl) dX12_readsLet_12 ⟨Nat.le_of_ble_eq_true rfl, Nat.le_of_ble_eq_true rfl⟩ [some 0, some 1, some 2, none, none, some 3, some 4] (of_decide_eq_true rfl) (of_decide_eq_true rfl) rfl rfl rfl (fun H locs hP hD hS => ?_)
  refine lv_istore_n (lv' := [(2, .int o_9.1), (1, .int o_1.1), (0, .ref h0)]) hx hb dX12_readsLet_15 rfl hl (of_decide_eq_true rfl) rfl (fun ls hl => ?_)
  refine lv_aload_n hx hb dX12_readsLet_16 rfl (lv_at hl 2 rfl) ?_
  refine va_get (D := (dC, dI)) (ci := 12) (v := .long o_9.2.1) (C := RX12) (T := TX12) (N := 67) hx hb hts zn_X12_readsLet_X12 hown hK hP 0 rfl rfl 28 (of_decide_eq_true rfl) (hts (.fieldLink RX12 96 "ShortEnoughModel" "whatV" "J") zw_X12_readsLet_968) (fun _ h9 => h9) rfl dX12_readsLet_17 ?_
  refine lv_lstore_n (lv' := [(3, .long o_9.2.1), (2, .int o_9.1), (1, .int o_1.1), (0, .ref h0)]) hx hb dX12_readsLet_20 rfl hl (of_decide_eq_true rfl) rfl (fun ls hl => ?_)
  refine lv_aload_n hx hb dX12_readsLet_21 rfl (lv_at hl 3 rfl) ?_
  obtain ⟨o_13, hqo_13, hfn⟩ := zb_s hfn
  refine zcVi (ci := 12) (rest := []) (pc' := 25) (ws' := [(h0, .inr (12, zO a0 (zI (zI (zI (zI b0 6 o_13.2.1) 7 o_13.2.2.1) 8 o_13.2.2.2.1) 9 o_13.2.2.2.2) (zJ c0 28 o_9.2.1))), zVi (a0 0) k1 1200 f1, zVi (a0 10) k2 71 f2, zVi (a0 12) k3 2 f3, zVi (a0 13) k4 8 f4, zVi (a0 17) k5 2 f5, zVi (a0 18) k6 28 f6, zVi (a0 19) k7 28 f7, zVi (a0 20) k8 28 f8, zVi (a0 21) k9 28 f9, zVi (a0 25) k10 28 f10, zVi (a0 26) k11 28 f11, zVi (a0 27) k12 28 f12, zVl (a0 22) k13 28 f13, zVl (a0 23) k14 28 f14]) hP hK hD hS hA ⟨hx, hb, hml, hown, hts⟩ (zf_X12_readsOp l dC dI h0 a0 (zI (zI (zI (zI b0 6 o_9.2.2.1) 7 o_9.2.2.2.1) 8 o_9.2.2.2.2.1) 9 o_9.2.2.2.2.2) (zJ c0 28 o_9.2.1) k1 f1 k2 f2 o_13 hqo_13 H.size) (cwV 0 hts gX12_readsLet_X12_readsOp rfl rfl rfl zhd_X12_readsOp ⟨Nat.le_of_ble_eq_true rfl, Nat.le_of_ble_eq_true rfl⟩) [0, 1, 2] rfl (of_decide_eq_true rfl) [0, 1] rfl rfl rfl rfl hl.1 rfl (Nat.le_of_ble_eq_true rfl) dX12_readsLet_22 ⟨Nat.le_of_ble_eq_true rfl, Nat.le_of_ble_eq_true rfl⟩ [some 0, some 1, some 2] (of_decide_eq_true rfl) (of_decide_eq_true rfl) rfl rfl rfl (fun H locs hP hD hS => ?_)
  refine lv_istore (lv' := [(5, .int o_13.1), (3, .long o_9.2.1), (2, .int o_9.1), (1, .int o_1.1), (0, .ref h0)]) hx hb dX12_readsLet_25 hl (of_decide_eq_true rfl) rfl (fun ls hl => ?_)
  refine lv_aload_n hx hb dX12_readsLet_27 rfl (lv_at hl 4 rfl) ?_
  obtain ⟨o_17, hqo_17, hfn⟩ := zb_s hfn
  refine zcVi (ci := 12) (rest := []) (pc' := 31) (ws' := [(h0, .inr (12, zO a0 (zI (zI (zI (zI b0 6 o_17.2.2.1) 7 o_17.2.2.2.1) 8 o_17.2.2.2.2.1) 9 o_17.2.2.2.2.2) (zJ c0 28 o_17.2.1))), zVi (a0 0) k1 1200 f1, zVi (a0 10) k2 71 f2, zVi (a0 12) k3 2 f3, zVi (a0 13) k4 8 f4, zVi (a0 17) k5 2 f5, zVi (a0 18) k6 28 f6, zVi (a0 19) k7 28 f7, zVi (a0 20) k8 28 f8, zVi (a0 21) k9 28 f9, zVi (a0 25) k10 28 f10, zVi (a0 26) k11 28 f11, zVi (a0 27) k12 28 f12, zVl (a0 22) k13 28 f13, zVl (a0 23) k14 28 f14]) hP hK hD hS hA ⟨hx, hb, hml, hown, hts⟩ (zf_X12_readsWhat l dC dI h0 a0 (zI (zI (zI (zI b0 6 o_13.2.1) 7 o_13.2.2.1) 8 o_13.2.2.2.1) 9 o_13.2.2.2.2) (zJ c0 28 o_9.2.1) k1 f1 k2 f2 k5 f5 k6 f6 o_17 hqo_17 H.size) (cwV 0 hts gX12_readsLet_X12_readsWhat rfl rfl rfl zhd_X12_readsWhat ⟨Nat.le_of_ble_eq_true rfl, Nat.le_of_ble_eq_true rfl⟩) [0, 1, 2, 5, 6] rfl (of_decide_eq_true rfl) [0, 1, 4, 5] rfl rfl rfl rfl hl.1 rfl (Nat.le_of_ble_eq_true rfl) dX12_readsLet_28 ⟨Nat.le_of_ble_eq_true rfl, Nat.le_of_ble_eq_true rfl⟩ [some 0, some 1, some 2, none, none, some 3, some 4] (of_decide_eq_true rfl) (of_decide_eq_true rfl) rfl rfl rfl (fun H locs hP hD hS => ?_)
  refine lv_istore (lv' := [(6, .int o_17.1), (5, .int o_13.1), (3, .long o_9.2.1), (2, .int o_9.1), (1, .int o_1.1), (0, .ref h0)]) hx hb dX12_readsLet_31 hl (of_decide_eq_true rfl) rfl (fun ls hl => ?_)
  refine lv_aload_n hx hb dX12_readsLet_33 rfl (lv_at hl 5 rfl) ?_
  refine va_get (D := (dC, dI)) (ci := 12) (v := .long o_17.2.1) (C := RX12) (T := TX12) (N := 67) hx hb hts zn_X12_readsLet_X12 hown hK hP 0 rfl rfl 28 (of_decide_eq_true rfl) (hts (.fieldLink RX12 96 "ShortEnoughModel" "whatV" "J") zw_X12_readsLet_968) (fun _ h9 => h9) rfl dX12_readsLet_34 ?_
  refine lv_lstore (lv' := [(7, .long o_17.2.1), (6, .int o_17.1), (5, .int o_13.1), (3, .long o_9.2.1), (2, .int o_9.1), (1, .int o_1.1), (0, .ref h0)]) hx hb dX12_readsLet_37 hl (of_decide_eq_true rfl) rfl (fun ls hl => ?_)
  refine lv_aload_n hx hb dX12_readsLet_39 rfl (lv_at hl 6 rfl) ?_
  obtain ⟨o_21, hqo_21, hfn⟩ := zb_s hfn
  refine zcVb (ci := 12) (rest := []) (pc' := 43) (ws' := [(h0, .inr (12, zO a0 (zI (zI (zI (zI b0 6 o_17.2.2.1) 7 o_17.2.2.2.1) 8 o_17.2.2.2.2.1) 9 o_17.2.2.2.2.2) (zJ c0 28 o_17.2.1))), zVi (a0 0) k1 1200 f1, zVi (a0 10) k2 71 f2, zVi (a0 12) k3 2 f3, zVi (a0 13) k4 8 f4, zVi (a0 17) k5 2 f5, zVi (a0 18) k6 28 f6, zVi (a0 19) k7 28 f7, zVi (a0 20) k8 28 f8, zVi (a0 21) k9 28 f9, zVi (a0 25) k10 28 f10, zVi (a0 26) k11 28 f11, zVi (a0 27) k12 28 f12, zVl (a0 22) k13 28 f13, zVl (a0 23) k14 28 f14]) hP hK hD hS hA ⟨hx, hb, hml, hown, hts⟩ (zf_X12_goesWell l dC dI h0 a0 (zI (zI (zI (zI b0 6 o_17.2.2.1) 7 o_17.2.2.2.1) 8 o_17.2.2.2.2.1) 9 o_17.2.2.2.2.2) (zJ c0 28 o_17.2.1) o_21 hqo_21 H.size) (cwV 0 hts gX12_readsLet_X12_goesWell rfl rfl rfl zhd_X12_goesWell ⟨Nat.le_of_ble_eq_true rfl, Nat.le_of_ble_eq_true rfl⟩) [0] rfl (of_decide_eq_true rfl) [] rfl rfl rfl rfl hl.1 rfl (Nat.le_of_ble_eq_true rfl) dX12_readsLet_40 ⟨Nat.le_of_ble_eq_true rfl, Nat.le_of_ble_eq_true rfl⟩ [some 0] (of_decide_eq_true rfl) (of_decide_eq_true rfl) rfl rfl rfl (fun H locs hw_24n hP hD hS => ?_)
  refine lv_if_ne (tgt := 47) hx hb dX12_readsLet_43 (of_decide_eq_true rfl) (fun c_25 => ?_) (fun c_25 => ?_)
  · have hfn := (if_neg c_25).symm.trans hfn
    refine lv_aload_n hx hb dX12_readsLet_47 rfl (lv_at hl 6 rfl) ?_
    refine lv_iload_n hx hb dX12_readsLet_48 rfl (lv_at hl 5 rfl) ?_
    refine lv_iload hx hb dX12_readsLet_49 (lv_at hl 2 rfl) ?_
    obtain ⟨o_26, hqo_26, hfn⟩ := zb_s hfn
    refine zcVv (ci := 12) (rest := []) (pc' := 54) (ws' := [(h0, .inr (12, zO a0 (zI (zI (zI (zI b0 6 o_17.2.2.1) 7 o_17.2.2.2.1) 8 o_17.2.2.2.2.1) 9 o_17.2.2.2.2.2) (zJ c0 28 o_17.2.1))), zVi (a0 0) k1 1200 f1, zVi (a0 10) k2 71 f2, zVi (a0 12) k3 2 f3, zVi (a0 13) k4 8 f4, zVi (a0 17) k5 2 f5, zVi (a0 18) k6 28 o_26.1, zVi (a0 19) k7 28 o_26.2.1, zVi (a0 20) k8 28 o_26.2.2.1, zVi (a0 21) k9 28 o_26.2.2.2.1, zVi (a0 25) k10 28 o_26.2.2.2.2.1, zVi (a0 26) k11 28 o_26.2.2.2.2.2.1, zVi (a0 27) k12 28 o_26.2.2.2.2.2.2, zVl (a0 22) k13 28 f13, zVl (a0 23) k14 28 f14]) hP hK hD hS hA ⟨hx, hb, hml, hown, hts⟩ (zf_X12_newNumber l dC dI h0 o_1.1 o_13.1 a0 (zI (zI (zI (zI b0 6 o_17.2.2.1) 7 o_17.2.2.2.1) 8 o_17.2.2.2.2.1) 9 o_17.2.2.2.2.2) (zJ c0 28 o_17.2.1) k5 f5 k6 f6 k7 f7 k8 f8 k9 f9 k10 f10 k11 f11 k12 f12 o_26 hqo_26 H.size) (cwV 2 hts gX12_readsLet_X12_newNumber rfl rfl rfl zhd_X12_newNumber ⟨Nat.le_of_ble_eq_true rfl, Nat.le_of_ble_eq_true rfl⟩) [0, 5, 6, 7, 8, 9, 10, 11, 12] rfl (of_decide_eq_true rfl) [4, 5, 6, 7, 8, 9, 10, 11] rfl rfl rfl rfl hl.1 rfl (Nat.le_of_ble_eq_true rfl) dX12_readsLet_51 ⟨Nat.le_of_ble_eq_true rfl, Nat.le_of_ble_eq_true rfl⟩ [some 0, none, none, none, none, some 1, some 2, some 3, some 4, some 5, some 6, some 7, some 8] (of_decide_eq_true rfl) (of_decide_eq_true rfl) rfl rfl rfl (fun H locs hP hD hS => ?_)
    refine lv_aload_n hx hb dX12_readsLet_54 rfl (lv_at hl 6 rfl) ?_
    refine lv_aload_n hx hb dX12_readsLet_55 rfl (lv_at hl 6 rfl) ?_
    refine va_get (D := (dC, dI)) (ci := 12) (v := .ref (a0 17)) (C := RX12) (T := TX12) (N := 67) hx hb hts zn_X12_readsLet_X12 hown hK hP 0 rfl rfl 17 (of_decide_eq_true rfl) (hts (.fieldLink RX12 62 "ShortEnoughModel" "numbers" "[I") zw_X12_readsLet_969) (fun _ h9 => h9) rfl dX12_readsLet_56 ?_
    refine lv_aload_n hx hb dX12_readsLet_59 rfl (lv_at hl 6 rfl) ?_
    refine va_get (D := (dC, dI)) (ci := 12) (v := .int (b0 11)) (C := RX12) (T := TX12) (N := 67) hx hb hts zn_X12_readsLet_X12 hown hK hP 0 rfl rfl 11 (of_decide_eq_true rfl) (hts (.fieldLink RX12 44 "ShortEnoughModel" "in" "I") zw_X12_readsLet_970) (fun _ h9 => h9) rfl dX12_readsLet_60 ?_
    obtain ⟨h_30, hfn⟩ := zg_s hfn
    refine va_iald hx hb hK hP 5 4 rfl rfl h_30 dX12_readsLet_63 ?_
    obtain ⟨o_31, hqo_31, hfn⟩ := zb_s hfn
    refine zcVi (ci := 12) (rest := []) (pc' := 67) (ws' := [(h0, .inr (12, zO a0 (zI (zI (zI (zI b0 6 o_17.2.2.1) 7 o_17.2.2.2.1) 8 o_17.2.2.2.2.1) 9 o_17.2.2.2.2.2) (zJ c0 28 o_17.2.1))), zVi (a0 0) k1 1200 f1, zVi (a0 10) k2 71 f2, zVi (a0 12) k3 2 f3, zVi (a0 13) k4 8 f4, zVi (a0 17) k5 2 f5, zVi (a0 18) k6 28 o_26.1, zVi (a0 19) k7 28 o_26.2.1, zVi (a0 20) k8 28 o_26.2.2.1, zVi (a0 21) k9 28 o_26.2.2.2.1, zVi (a0 25) k10 28 o_26.2.2.2.2.1, zVi (a0 26) k11 28 o_26.2.2.2.2.2.1, zVi (a0 27) k12 28 o_26.2.2.2.2.2.2, zVl (a0 22) k13 28 f13, zVl (a0 23) k14 28 f14]) hP hK hD hS hA ⟨hx, hb, hml, hown, hts⟩ (zf_X12_n l dC dI h0 (f5 (b0 11).toNatClampNeg) a0 (zI (zI (zI (zI b0 6 o_17.2.2.1) 7 o_17.2.2.2.1) 8 o_17.2.2.2.2.1) 9 o_17.2.2.2.2.2) (zJ c0 28 o_17.2.1) o_31 hqo_31 H.size) (cwV 1 hts gX12_readsLet_X12_n rfl rfl rfl zhd_X12_n ⟨Nat.le_of_ble_eq_true rfl, Nat.le_of_ble_eq_true rfl⟩) [0] rfl (of_decide_eq_true rfl) [] rfl rfl rfl rfl hl.1 rfl (Nat.le_of_ble_eq_true rfl) dX12_readsLet_64 ⟨Nat.le_of_ble_eq_true rfl, Nat.le_of_ble_eq_true rfl⟩ [some 0] (of_decide_eq_true rfl) (of_decide_eq_true rfl) rfl rfl rfl (fun H locs hP hD hS => ?_)
    refine lv_istore (lv' := [(9, .int o_31), (7, .long o_17.2.1), (6, .int o_17.1), (5, .int o_13.1), (3, .long o_9.2.1), (2, .int o_9.1), (1, .int o_1.1), (0, .ref h0)]) hx hb dX12_readsLet_67 hl (of_decide_eq_true rfl) rfl (fun ls hl => ?_)
    refine lv_aload_n hx hb dX12_readsLet_69 rfl (lv_at hl 7 rfl) ?_
    refine va_get (D := (dC, dI)) (ci := 12) (v := .ref (a0 20)) (C := RX12) (T := TX12) (N := 67) hx hb hts zn_X12_readsLet_X12 hown hK hP 0 rfl rfl 20 (of_decide_eq_true rfl) (hts (.fieldLink RX12 71 "ShortEnoughModel" "first" "[I") zw_X12_readsLet_971) (fun _ h9 => h9) rfl dX12_readsLet_70 ?_
    refine lv_iload hx hb dX12_readsLet_73 (lv_at hl 0 rfl) ?_
    refine lv_iload_n hx hb dX12_readsLet_75 rfl (lv_at hl 5 rfl) ?_
    obtain ⟨h_35, hfn⟩ := zg_s hfn
    refine va_iast hx hb hK hP hD hS 8 7 rfl rfl h_35 dX12_readsLet_76 (fun H locs hP hD hS => ?_)
    have hP : va_P (dC, dI) vwCl [(h0, .inr (12, zO a0 (zI (zI (zI (zI b0 6 o_17.2.2.1) 7 o_17.2.2.2.1) 8 o_17.2.2.2.2.1) 9 o_17.2.2.2.2.2) (zJ c0 28 o_17.2.1))), zVi (a0 0) k1 1200 f1, zVi (a0 10) k2 71 f2, zVi (a0 12) k3 2 f3, zVi (a0 13) k4 8 f4, zVi (a0 17) k5 2 f5, zVi (a0 18) k6 28 o_26.1, zVi (a0 19) k7 28 o_26.2.1, zVi (a0 20) k8 28 (upd o_26.2.2.1 o_31.toNatClampNeg o_9.1), zVi (a0 21) k9 28 o_26.2.2.2.1, zVi (a0 25) k10 28 o_26.2.2.2.2.1, zVi (a0 26) k11 28 o_26.2.2.2.2.2.1, zVi (a0 27) k12 28 o_26.2.2.2.2.2.2, zVl (a0 22) k13 28 f13, zVl (a0 23) k14 28 f14] H := hP
    have hD := zDW hD hP rfl
    refine lv_aload_n hx hb dX12_readsLet_77 rfl (lv_at hl 7 rfl) ?_
    refine va_get (D := (dC, dI)) (ci := 12) (v := .ref (a0 22)) (C := RX12) (T := TX12) (N := 67) hx hb hts zn_X12_readsLet_X12 hown hK hP 0 rfl rfl 22 (of_decide_eq_true rfl) (hts (.fieldLink RX12 77 "ShortEnoughModel" "firstV" "[J") zw_X12_readsLet_972) (fun _ h9 => h9) rfl dX12_readsLet_78 ?_
    refine lv_iload hx hb dX12_readsLet_81 (lv_at hl 0 rfl) ?_
    refine lv_lload_n hx hb dX12_readsLet_83 rfl (lv_at hl 4 rfl) ?_
    refine va_last hx hb hK hP hD hS 13 12 rfl rfl h_35 dX12_readsLet_84 (fun H locs hP hD hS => ?_)
    have hP : va_P (dC, dI) vwCl [(h0, .inr (12, zO a0 (zI (zI (zI (zI b0 6 o_17.2.2.1) 7 o_17.2.2.2.1) 8 o_17.2.2.2.2.1) 9 o_17.2.2.2.2.2) (zJ c0 28 o_17.2.1))), zVi (a0 0) k1 1200 f1, zVi (a0 10) k2 71 f2, zVi (a0 12) k3 2 f3, zVi (a0 13) k4 8 f4, zVi (a0 17) k5 2 f5, zVi (a0 18) k6 28 o_26.1, zVi (a0 19) k7 28 o_26.2.1, zVi (a0 20) k8 28 (upd o_26.2.2.1 o_31.toNatClampNeg o_9.1), zVi (a0 21) k9 28 o_26.2.2.2.1, zVi (a0 25) k10 28 o_26.2.2.2.2.1, zVi (a0 26) k11 28 o_26.2.2.2.2.2.1, zVi (a0 27) k12 28 o_26.2.2.2.2.2.2, zVl (a0 22) k13 28 (vp_updL f13 o_31.toNatClampNeg o_9.2.1), zVl (a0 23) k14 28 f14] H := hP
    have hD := zDW hD hP rfl
    refine lv_aload_n hx hb dX12_readsLet_85 rfl (lv_at hl 7 rfl) ?_
    refine va_get (D := (dC, dI)) (ci := 12) (v := .ref (a0 21)) (C := RX12) (T := TX12) (N := 67) hx hb hts zn_X12_readsLet_X12 hown hK hP 0 rfl rfl 21 (of_decide_eq_true rfl) (hts (.fieldLink RX12 74 "ShortEnoughModel" "second" "[I") zw_X12_readsLet_973) (fun _ h9 => h9) rfl dX12_readsLet_86 ?_
    refine lv_iload hx hb dX12_readsLet_89 (lv_at hl 0 rfl) ?_
    refine lv_iload hx hb dX12_readsLet_91 (lv_at hl 2 rfl) ?_
    refine va_iast hx hb hK hP hD hS 9 8 rfl rfl h_35 dX12_readsLet_93 (fun H locs hP hD hS => ?_)
    have hP : va_P (dC, dI) vwCl [(h0, .inr (12, zO a0 (zI (zI (zI (zI b0 6 o_17.2.2.1) 7 o_17.2.2.2.1) 8 o_17.2.2.2.2.1) 9 o_17.2.2.2.2.2) (zJ c0 28 o_17.2.1))), zVi (a0 0) k1 1200 f1, zVi (a0 10) k2 71 f2, zVi (a0 12) k3 2 f3, zVi (a0 13) k4 8 f4, zVi (a0 17) k5 2 f5, zVi (a0 18) k6 28 o_26.1, zVi (a0 19) k7 28 o_26.2.1, zVi (a0 20) k8 28 (upd o_26.2.2.1 o_31.toNatClampNeg o_9.1), zVi (a0 21) k9 28 (upd o_26.2.2.2.1 o_31.toNatClampNeg o_17.1), zVi (a0 25) k10 28 o_26.2.2.2.2.1, zVi (a0 26) k11 28 o_26.2.2.2.2.2.1, zVi (a0 27) k12 28 o_26.2.2.2.2.2.2, zVl (a0 22) k13 28 (vp_updL f13 o_31.toNatClampNeg o_9.2.1), zVl (a0 23) k14 28 f14] H := hP
    have hD := zDW hD hP rfl
    refine lv_aload_n hx hb dX12_readsLet_94 rfl (lv_at hl 7 rfl) ?_
    refine va_get (D := (dC, dI)) (ci := 12) (v := .ref (a0 23)) (C := RX12) (T := TX12) (N := 67) hx hb hts zn_X12_readsLet_X12 hown hK hP 0 rfl rfl 23 (of_decide_eq_true rfl) (hts (.fieldLink RX12 81 "ShortEnoughModel" "secondV" "[J") zw_X12_readsLet_974) (fun _ h9 => h9) rfl dX12_readsLet_95 ?_
    refine lv_iload hx hb dX12_readsLet_98 (lv_at hl 0 rfl) ?_
    refine lv_lload hx hb dX12_readsLet_100 (lv_at hl 1 rfl) ?_
    refine va_last hx hb hK hP hD hS 14 13 rfl rfl h_35 dX12_readsLet_102 (fun H locs hP hD hS => ?_)
    have hP : va_P (dC, dI) vwCl [(h0, .inr (12, zO a0 (zI (zI (zI (zI b0 6 o_17.2.2.1) 7 o_17.2.2.2.1) 8 o_17.2.2.2.2.1) 9 o_17.2.2.2.2.2) (zJ c0 28 o_17.2.1))), zVi (a0 0) k1 1200 f1, zVi (a0 10) k2 71 f2, zVi (a0 12) k3 2 f3, zVi (a0 13) k4 8 f4, zVi (a0 17) k5 2 f5, zVi (a0 18) k6 28 o_26.1, zVi (a0 19) k7 28 o_26.2.1, zVi (a0 20) k8 28 (upd o_26.2.2.1 o_31.toNatClampNeg o_9.1), zVi (a0 21) k9 28 (upd o_26.2.2.2.1 o_31.toNatClampNeg o_17.1), zVi (a0 25) k10 28 o_26.2.2.2.2.1, zVi (a0 26) k11 28 o_26.2.2.2.2.2.1, zVi (a0 27) k12 28 o_26.2.2.2.2.2.2, zVl (a0 22) k13 28 (vp_updL f13 o_31.toNatClampNeg o_9.2.1), zVl (a0 23) k14 28 (vp_updL f14 o_31.toNatClampNeg o_17.2.1)] H := hP
    have hD := zDW hD hP rfl
    refine lv_aload_n hx hb dX12_readsLet_103 rfl (lv_at hl 7 rfl) ?_
    refine va_get (D := (dC, dI)) (ci := 12) (v := .ref (a0 17)) (C := RX12) (T := TX12) (N := 67) hx hb hts zn_X12_readsLet_X12 hown hK hP 0 rfl rfl 17 (of_decide_eq_true rfl) (hts (.fieldLink RX12 62 "ShortEnoughModel" "numbers" "[I") zw_X12_readsLet_969) (fun _ h9 => h9) rfl dX12_readsLet_104 ?_
    refine lv_aload_n hx hb dX12_readsLet_107 rfl (lv_at hl 7 rfl) ?_
    refine va_get (D := (dC, dI)) (ci := 12) (v := .int (b0 11)) (C := RX12) (T := TX12) (N := 67) hx hb hts zn_X12_readsLet_X12 hown hK hP 0 rfl rfl 11 (of_decide_eq_true rfl) (hts (.fieldLink RX12 44 "ShortEnoughModel" "in" "I") zw_X12_readsLet_970) (fun _ h9 => h9) rfl dX12_readsLet_108 ?_
    refine lv_dup2_11 hx hb dX12_readsLet_111 rfl rfl ?_
    refine va_iald hx hb hK hP 5 4 rfl rfl h_30 dX12_readsLet_112 ?_
    refine lv_iconst (v := 1) hx hb dX12_readsLet_113 zci_1 ?_
    refine lv_iadd hx hb dX12_readsLet_114 ?_
    refine va_iast hx hb hK hP hD hS 5 4 rfl rfl h_30 dX12_readsLet_115 (fun H locs hP hD hS => ?_)
    have hP : va_P (dC, dI) vwCl [(h0, .inr (12, zO a0 (zI (zI (zI (zI b0 6 o_17.2.2.1) 7 o_17.2.2.2.1) 8 o_17.2.2.2.2.1) 9 o_17.2.2.2.2.2) (zJ c0 28 o_17.2.1))), zVi (a0 0) k1 1200 f1, zVi (a0 10) k2 71 f2, zVi (a0 12) k3 2 f3, zVi (a0 13) k4 8 f4, zVi (a0 17) k5 2 (upd f5 (b0 11).toNatClampNeg ((f5 (b0 11).toNatClampNeg) + 1)), zVi (a0 18) k6 28 o_26.1, zVi (a0 19) k7 28 o_26.2.1, zVi (a0 20) k8 28 (upd o_26.2.2.1 o_31.toNatClampNeg o_9.1), zVi (a0 21) k9 28 (upd o_26.2.2.2.1 o_31.toNatClampNeg o_17.1), zVi (a0 25) k10 28 o_26.2.2.2.2.1, zVi (a0 26) k11 28 o_26.2.2.2.2.2.1, zVi (a0 27) k12 28 o_26.2.2.2.2.2.2, zVl (a0 22) k13 28 (vp_updL f13 o_31.toNatClampNeg o_9.2.1), zVl (a0 23) k14 28 (vp_updL f14 o_31.toNatClampNeg o_17.2.1)] H := hP
    have hD := zDW hD hP rfl
    have ho := Option.some.inj hfn
    subst ho
    exact zrv hx hb hr hK hP hD hS hQ trivial hlocks dX12_readsLet_116
  have hfn := (if_pos c_25).symm.trans hfn
  have ho := Option.some.inj hfn
  subst ho
  exact zrv hx hb hr hK hP hD hS hQ trivial hlocks dX12_readsLet_46
theorem zn_X12_readsFixed_X12 : ∀ w ∈ wsX120, w ∈ wsX12_readsFixed := fun _ h => List.mem_cons_of_mem _ (List.mem_append_right _ h)
theorem zw_X12_readsFixed_976 : Cond.fieldLink RX12 32 "ShortEnoughModel" "begun" "I" ∈ wsX12_readsFixed := List.mem_of_getElem? (i := 1) (by decide +kernel)
theorem zw_X12_readsFixed_977 : Cond.fieldLink RX12 87 "ShortEnoughModel" "fixedAs" "[I" ∈ wsX12_readsFixed := List.mem_of_getElem? (i := 2) (by decide +kernel)
set_option maxHeartbeats 4000000 in
set_option maxRecDepth 100000 in
theorem zf_X12_readsFixed (l : Launch) (dC : Nat → ClassId) (dI : Nat → Nat → Nat) (h0 : Nat) (a0 : Nat → Nat) (b0 : Nat → Int32) (c0 : Nat → Int64) (k1 : Nat) (f1 : Nat → Int32) (k2 : Nat) (f2 : Nat → Int32) (k3 : Nat) (f3 : Nat → Int32) (k4 : Nat) (f4 : Nat → Int32) (k5 : Nat) (f5 : Nat → Int32) (k6 : Nat) (f6 : Nat → Int32) (k7 : Nat) (f7 : Nat → Int32) (o : Int32 × Int32 × Int32 × Int32 × (Nat → Int32)) (hfn : fn_X12_readsFixed (b0 5) (b0 6) (b0 7) (b0 8) (b0 9) (b0 11) f1 f2 f3 f4 f5 f6 f7 = some o) (sz : Nat) : zMv l yX12_readsFixed wsX12_readsFixed ({ frames := 5, cells := 0, slots := 0, locals := 106 }) (dC, dI) vwCl [.ref h0] [(h0, .inr (12, zO a0 b0 c0)), zVi (a0 0) k1 1200 f1, zVi (a0 10) k2 71 f2, zVi (a0 17) k3 2 f3, zVi (a0 18) k4 28 f4, zVi (a0 12) k5 2 f5, zVi (a0 13) k6 8 f6, zVi (a0 25) k7 28 f7] [(k1, .int), (k2, .int), (k3, .int), (k4, .int), (k5, .int), (k6, .int), (k7, .int)] (fun _ => True) [(h0, .inr (12, zO a0 (zI (zI (zI (zI b0 6 o.1) 7 o.2.1) 8 o.2.2.1) 9 o.2.2.2.1) c0)), zVi (a0 0) k1 1200 f1, zVi (a0 10) k2 71 f2, zVi (a0 17) k3 2 f3, zVi (a0 18) k4 28 f4, zVi (a0 12) k5 2 f5, zVi (a0 13) k6 8 f6, zVi (a0 25) k7 28 o.2.2.2.2] [(k1, .int), (k2, .int), (k3, .int), (k4, .int), (k5, .int), (k6, .int), (k7, .int)] sz := by
  refine zgov (cc := cX12_readsFixed) (maxL := 4) (ret := none) (C0 := RX12) (lv0 := [(0, .ref h0)]) zpl_X12 rfl rfl rfl (Nat.le_of_ble_eq_true rfl) ?_
  intro p e s m below meth c A ls Q hx hb hr hts hown hlocks hml hP hK hD hA hS hl hQ
  unfold fn_X12_readsFixed at hfn
  refine lv_aload_n hx hb dX12_readsFixed_0 rfl (lv_at hl 0 rfl) ?_
  obtain ⟨o_1, hqo_1, hfn⟩ := zb_s hfn
  refine zcVi (ci := 12) (rest := []) (pc' := 4) (ws' := [(h0, .inr (12, zO a0 (zI (zI (zI (zI b0 6 o_1.2.1) 7 o_1.2.2.1) 8 o_1.2.2.2.1) 9 o_1.2.2.2.2) c0)), zVi (a0 0) k1 1200 f1, zVi (a0 10) k2 71 f2, zVi (a0 17) k3 2 f3, zVi (a0 18) k4 28 f4, zVi (a0 12) k5 2 f5, zVi (a0 13) k6 8 f6, zVi (a0 25) k7 28 f7]) hP hK hD hS hA ⟨hx, hb, hml, hown, hts⟩ (zf_X12_toldNumber l dC dI h0 a0 b0 c0 k1 f1 k2 f2 k3 f3 k4 f4 o_1 hqo_1 s.heap.size) (cwV 0 hts gX12_readsFixed_X12_toldNumber rfl rfl rfl zhd_X12_toldNumber ⟨Nat.le_of_ble_eq_true rfl, Nat.le_of_ble_eq_true rfl⟩) [0, 1, 2, 3, 4] rfl (of_decide_eq_true rfl) [0, 1, 2, 3] rfl rfl rfl rfl hl.1 rfl (Nat.le_of_ble_eq_true rfl) dX12_readsFixed_1 ⟨Nat.le_of_ble_eq_true rfl, Nat.le_of_ble_eq_true rfl⟩ [some 0, some 1, some 2, some 3, some 4] (of_decide_eq_true rfl) (of_decide_eq_true rfl) rfl rfl rfl (fun H locs hP hD hS => ?_)
  refine lv_istore_n (lv' := [(1, .int o_1.1), (0, .ref h0)]) hx hb dX12_readsFixed_4 rfl hl (of_decide_eq_true rfl) rfl (fun ls hl => ?_)
  refine lv_aload_n hx hb dX12_readsFixed_5 rfl (lv_at hl 1 rfl) ?_
  obtain ⟨o_5, hqo_5, hfn⟩ := zb_s hfn
  refine zcVi (ci := 12) (rest := []) (pc' := 9) (ws' := [(h0, .inr (12, zO a0 (zI (zI (zI (zI b0 6 o_5.2.1) 7 o_5.2.2.1) 8 o_5.2.2.2.1) 9 o_5.2.2.2.2) c0)), zVi (a0 0) k1 1200 f1, zVi (a0 10) k2 71 f2, zVi (a0 17) k3 2 f3, zVi (a0 18) k4 28 f4, zVi (a0 12) k5 2 f5, zVi (a0 13) k6 8 f6, zVi (a0 25) k7 28 f7]) hP hK hD hS hA ⟨hx, hb, hml, hown, hts⟩ (zf_X12_name l dC dI h0 a0 (zI (zI (zI (zI b0 6 o_1.2.1) 7 o_1.2.2.1) 8 o_1.2.2.2.1) 9 o_1.2.2.2.2) c0 k1 f1 k2 f2 o_5 hqo_5 H.size) (cwV 0 hts gX12_readsFixed_X12_name rfl rfl rfl zhd_X12_name ⟨Nat.le_of_ble_eq_true rfl, Nat.le_of_ble_eq_true rfl⟩) [0, 1, 2] rfl (of_decide_eq_true rfl) [0, 1] rfl rfl rfl rfl hl.1 rfl (Nat.le_of_ble_eq_true rfl) dX12_readsFixed_6 ⟨Nat.le_of_ble_eq_true rfl, Nat.le_of_ble_eq_true rfl⟩ [some 0, some 1, some 2] (of_decide_eq_true rfl) (of_decide_eq_true rfl) rfl rfl rfl (fun H locs hP hD hS => ?_)
  refine lv_istore_n (lv' := [(2, .int o_5.1), (1, .int o_1.1), (0, .ref h0)]) hx hb dX12_readsFixed_9 rfl hl (of_decide_eq_true rfl) rfl (fun ls hl => ?_)
  refine lv_aload_n hx hb dX12_readsFixed_10 rfl (lv_at hl 2 rfl) ?_
  obtain ⟨o_9, hqo_9, hfn⟩ := zb_s hfn
  refine zcVb (ci := 12) (rest := []) (pc' := 14) (ws' := [(h0, .inr (12, zO a0 (zI (zI (zI (zI b0 6 o_5.2.1) 7 o_5.2.2.1) 8 o_5.2.2.2.1) 9 o_5.2.2.2.2) c0)), zVi (a0 0) k1 1200 f1, zVi (a0 10) k2 71 f2, zVi (a0 17) k3 2 f3, zVi (a0 18) k4 28 f4, zVi (a0 12) k5 2 f5, zVi (a0 13) k6 8 f6, zVi (a0 25) k7 28 f7]) hP hK hD hS hA ⟨hx, hb, hml, hown, hts⟩ (zf_X12_goesWell l dC dI h0 a0 (zI (zI (zI (zI b0 6 o_5.2.1) 7 o_5.2.2.1) 8 o_5.2.2.2.1) 9 o_5.2.2.2.2) c0 o_9 hqo_9 H.size) (cwV 0 hts gX12_readsFixed_X12_goesWell rfl rfl rfl zhd_X12_goesWell ⟨Nat.le_of_ble_eq_true rfl, Nat.le_of_ble_eq_true rfl⟩) [0] rfl (of_decide_eq_true rfl) [] rfl rfl rfl rfl hl.1 rfl (Nat.le_of_ble_eq_true rfl) dX12_readsFixed_11 ⟨Nat.le_of_ble_eq_true rfl, Nat.le_of_ble_eq_true rfl⟩ [some 0] (of_decide_eq_true rfl) (of_decide_eq_true rfl) rfl rfl rfl (fun H locs hw_12n hP hD hS => ?_)
  obtain ⟨j_13, ej_13, hfn⟩ := zj_g hfn
  have jp_13 : ∀ (s_13 : Int32) (H : Heap) (locs : List Loc) (ls : Array Slot), j_13 s_13 = some o → va_P (dC, dI) vwCl [(h0, .inr (12, zO a0 (zI (zI (zI (zI b0 6 o_5.2.1) 7 o_5.2.2.1) 8 o_5.2.2.2.1) 9 o_5.2.2.2.2) c0)), zVi (a0 0) k1 1200 f1, zVi (a0 10) k2 71 f2, zVi (a0 17) k3 2 f3, zVi (a0 18) k4 28 f4, zVi (a0 12) k5 2 f5, zVi (a0 13) k6 8 f6, zVi (a0 25) k7 28 f7] H → va_D A [(h0, .inr (12, zO a0 (zI (zI (zI (zI b0 6 o_5.2.1) 7 o_5.2.2.1) 8 o_5.2.2.2.1) 9 o_5.2.2.2.2) c0)), zVi (a0 0) k1 1200 f1, zVi (a0 10) k2 71 f2, zVi (a0 17) k3 2 f3, zVi (a0 18) k4 28 f4, zVi (a0 12) k5 2 f5, zVi (a0 13) k6 8 f6, zVi (a0 25) k7 28 f7] → va_S A s.heap H locs → lv_has ls 4 [(1, .int o_1.1), (0, .ref h0)] → W p l e (headSpec wsX12_readsFixed ({ frames := 5, cells := 0, slots := 0, locals := 106 })).room s m ([.ref h0] : List Value).toArray below meth c H locs 0 0 Q (F0 m 26 ls [.int s_13]) := by
    intro s_13 H locs ls hfn hP hD hS hl
    have hfn := zj_s ej_13 hfn
    refine lv_istore_n (lv' := [(3, .int s_13), (1, .int o_1.1), (0, .ref h0)]) hx hb dX12_readsFixed_26 rfl hl (of_decide_eq_true rfl) rfl (fun ls hl => ?_)
    refine lv_aload_n hx hb dX12_readsFixed_27 rfl (lv_at hl 2 rfl) ?_
    obtain ⟨o_14, hqo_14, hfn⟩ := zb_s hfn
    refine zcVb (ci := 12) (rest := []) (pc' := 31) (ws' := [(h0, .inr (12, zO a0 (zI (zI (zI (zI b0 6 o_5.2.1) 7 o_5.2.2.1) 8 o_5.2.2.2.1) 9 o_5.2.2.2.2) c0)), zVi (a0 0) k1 1200 f1, zVi (a0 10) k2 71 f2, zVi (a0 17) k3 2 f3, zVi (a0 18) k4 28 f4, zVi (a0 12) k5 2 f5, zVi (a0 13) k6 8 f6, zVi (a0 25) k7 28 f7]) hP hK hD hS hA ⟨hx, hb, hml, hown, hts⟩ (zf_X12_goesWell l dC dI h0 a0 (zI (zI (zI (zI b0 6 o_5.2.1) 7 o_5.2.2.1) 8 o_5.2.2.2.1) 9 o_5.2.2.2.2) c0 o_14 hqo_14 H.size) (cwV 0 hts gX12_readsFixed_X12_goesWell rfl rfl rfl zhd_X12_goesWell ⟨Nat.le_of_ble_eq_true rfl, Nat.le_of_ble_eq_true rfl⟩) [0] rfl (of_decide_eq_true rfl) [] rfl rfl rfl rfl hl.1 rfl (Nat.le_of_ble_eq_true rfl) dX12_readsFixed_28 ⟨Nat.le_of_ble_eq_true rfl, Nat.le_of_ble_eq_true rfl⟩ [some 0] (of_decide_eq_true rfl) (of_decide_eq_true rfl) rfl rfl rfl (fun H locs hw_17n hP hD hS => ?_)
    obtain ⟨j_18, ej_18, hfn⟩ := zj_g hfn
    have jp_18 : ∀ (s_18 : Int32 × Int32) (H : Heap) (locs : List Loc) (ls : Array Slot), j_18 s_18 = some o → va_P (dC, dI) vwCl [(h0, .inr (12, zO a0 (zI (zI (zI (zI b0 6 o_5.2.1) 7 o_5.2.2.1) 8 s_18.1) 9 s_18.2) c0)), zVi (a0 0) k1 1200 f1, zVi (a0 10) k2 71 f2, zVi (a0 17) k3 2 f3, zVi (a0 18) k4 28 f4, zVi (a0 12) k5 2 f5, zVi (a0 13) k6 8 f6, zVi (a0 25) k7 28 f7] H → va_D A [(h0, .inr (12, zO a0 (zI (zI (zI (zI b0 6 o_5.2.1) 7 o_5.2.2.1) 8 s_18.1) 9 s_18.2) c0)), zVi (a0 0) k1 1200 f1, zVi (a0 10) k2 71 f2, zVi (a0 17) k3 2 f3, zVi (a0 18) k4 28 f4, zVi (a0 12) k5 2 f5, zVi (a0 13) k6 8 f6, zVi (a0 25) k7 28 f7] → va_S A s.heap H locs → lv_has ls 4 [(3, .int s_13), (1, .int o_1.1), (0, .ref h0)] → W p l e (headSpec wsX12_readsFixed ({ frames := 5, cells := 0, slots := 0, locals := 106 })).room s m ([.ref h0] : List Value).toArray below meth c H locs 0 0 Q (F0 m 48 ls []) := by
      intro s_18 H locs ls hfn hP hD hS hl
      have hfn := zj_s ej_18 hfn
      refine lv_aload_n hx hb dX12_readsFixed_48 rfl (lv_at hl 2 rfl) ?_
      obtain ⟨o_19, hqo_19, hfn⟩ := zb_s hfn
      refine zcVb (ci := 12) (rest := []) (pc' := 52) (ws' := [(h0, .inr (12, zO a0 (zI (zI (zI (zI b0 6 o_5.2.1) 7 o_5.2.2.1) 8 s_18.1) 9 s_18.2) c0)), zVi (a0 0) k1 1200 f1, zVi (a0 10) k2 71 f2, zVi (a0 17) k3 2 f3, zVi (a0 18) k4 28 f4, zVi (a0 12) k5 2 f5, zVi (a0 13) k6 8 f6, zVi (a0 25) k7 28 f7]) hP hK hD hS hA ⟨hx, hb, hml, hown, hts⟩ (zf_X12_goesWell l dC dI h0 a0 (zI (zI (zI (zI b0 6 o_5.2.1) 7 o_5.2.2.1) 8 s_18.1) 9 s_18.2) c0 o_19 hqo_19 H.size) (cwV 0 hts gX12_readsFixed_X12_goesWell rfl rfl rfl zhd_X12_goesWell ⟨Nat.le_of_ble_eq_true rfl, Nat.le_of_ble_eq_true rfl⟩) [0] rfl (of_decide_eq_true rfl) [] rfl rfl rfl rfl hl.1 rfl (Nat.le_of_ble_eq_true rfl) dX12_readsFixed_49 ⟨Nat.le_of_ble_eq_true rfl, Nat.le_of_ble_eq_true rfl⟩ [some 0] (of_decide_eq_true rfl) (of_decide_eq_true rfl) rfl rfl rfl (fun H locs hw_22n hP hD hS => ?_)
      refine lv_if_eq (tgt := 66) hx hb dX12_readsFixed_52 (of_decide_eq_true rfl) (fun c_23 => ?_) (fun c_23 => ?_)
      · have hfn := (if_pos c_23).symm.trans hfn
        have ho := Option.some.inj hfn
        subst ho
        exact zrv hx hb hr hK hP hD hS hQ trivial hlocks dX12_readsFixed_66
      have hfn := (if_neg c_23).symm.trans hfn
      refine lv_aload_n hx hb dX12_readsFixed_55 rfl (lv_at hl 2 rfl) ?_
      refine va_get (D := (dC, dI)) (ci := 12) (v := .ref (a0 25)) (C := RX12) (T := TX12) (N := 67) hx hb hts zn_X12_readsFixed_X12 hown hK hP 0 rfl rfl 25 (of_decide_eq_true rfl) (hts (.fieldLink RX12 87 "ShortEnoughModel" "fixedAs" "[I") zw_X12_readsFixed_977) (fun _ h9 => h9) rfl dX12_readsFixed_56 ?_
      refine lv_aload_n hx hb dX12_readsFixed_59 rfl (lv_at hl 2 rfl) ?_
      refine lv_iload_n hx hb dX12_readsFixed_60 rfl (lv_at hl 1 rfl) ?_
      obtain ⟨o_24, hqo_24, hfn⟩ := zb_s hfn
      refine zcVi (ci := 12) (rest := [.ref (a0 25)]) (pc' := 64) (ws' := [(h0, .inr (12, zO a0 (zI (zI (zI (zI b0 6 o_5.2.1) 7 o_5.2.2.1) 8 s_18.1) 9 s_18.2) c0)), zVi (a0 0) k1 1200 f1, zVi (a0 10) k2 71 f2, zVi (a0 17) k3 2 f3, zVi (a0 18) k4 28 f4, zVi (a0 12) k5 2 f5, zVi (a0 13) k6 8 f6, zVi (a0 25) k7 28 f7]) hP hK hD hS hA ⟨hx, hb, hml, hown, hts⟩ (zf_X12_n l dC dI h0 o_1.1 a0 (zI (zI (zI (zI b0 6 o_5.2.1) 7 o_5.2.2.1) 8 s_18.1) 9 s_18.2) c0 o_24 hqo_24 H.size) (cwV 1 hts gX12_readsFixed_X12_n rfl rfl rfl zhd_X12_n ⟨Nat.le_of_ble_eq_true rfl, Nat.le_of_ble_eq_true rfl⟩) [0] rfl (of_decide_eq_true rfl) [] rfl rfl rfl rfl hl.1 rfl (Nat.le_of_ble_eq_true rfl) dX12_readsFixed_61 ⟨Nat.le_of_ble_eq_true rfl, Nat.le_of_ble_eq_true rfl⟩ [some 0] (of_decide_eq_true rfl) (of_decide_eq_true rfl) rfl rfl rfl (fun H locs hP hD hS => ?_)
      refine lv_iload_n hx hb dX12_readsFixed_64 rfl (lv_at hl 0 rfl) ?_
      obtain ⟨h_28, hfn⟩ := zg_s hfn
      refine va_iast hx hb hK hP hD hS 7 6 rfl rfl h_28 dX12_readsFixed_65 (fun H locs hP hD hS => ?_)
      have hP : va_P (dC, dI) vwCl [(h0, .inr (12, zO a0 (zI (zI (zI (zI b0 6 o_5.2.1) 7 o_5.2.2.1) 8 s_18.1) 9 s_18.2) c0)), zVi (a0 0) k1 1200 f1, zVi (a0 10) k2 71 f2, zVi (a0 17) k3 2 f3, zVi (a0 18) k4 28 f4, zVi (a0 12) k5 2 f5, zVi (a0 13) k6 8 f6, zVi (a0 25) k7 28 (upd f7 o_24.toNatClampNeg s_13)] H := hP
      have hD := zDW hD hP rfl
      have ho := Option.some.inj hfn
      subst ho
      exact zrv hx hb hr hK hP hD hS hQ trivial hlocks dX12_readsFixed_66
    refine lv_if_eq (tgt := 48) hx hb dX12_readsFixed_31 (of_decide_eq_true rfl) (fun c_29 => ?_) (fun c_29 => ?_)
    · have hfn := (if_pos c_29).symm.trans hfn
      exact jp_18 (o_5.2.2.2.1, o_5.2.2.2.2) H locs ls hfn hP hD hS (lv_sub hl [0, 1, 2] rfl)
    have hfn := (if_neg c_29).symm.trans hfn
    refine lv_iload_n hx hb dX12_readsFixed_34 rfl (lv_at hl 0 rfl) ?_
    refine lv_iconst (v := (-1)) hx hb dX12_readsFixed_35 zci_m1 ?_
    refine lv_icmp_ne (tgt := 48) hx hb dX12_readsFixed_36 (of_decide_eq_true rfl) (fun c_30 => ?_) (fun c_30 => ?_)
    · have hfn := (if_neg c_30).symm.trans hfn
      exact jp_18 (o_5.2.2.2.1, o_5.2.2.2.2) H locs ls hfn hP hD hS (lv_sub hl [0, 1, 2] rfl)
    have hfn := (if_pos c_30).symm.trans hfn
    refine lv_aload_n hx hb dX12_readsFixed_39 rfl (lv_at hl 2 rfl) ?_
    refine lv_iconst (v := 3) hx hb dX12_readsFixed_40 zci_3 ?_
    refine lv_aload_n hx hb dX12_readsFixed_41 rfl (lv_at hl 2 rfl) ?_
    refine va_get (D := (dC, dI)) (ci := 12) (v := .int o_5.2.2.1) (C := RX12) (T := TX12) (N := 67) hx hb hts zn_X12_readsFixed_X12 hown hK hP 0 rfl rfl 7 (of_decide_eq_true rfl) (hts (.fieldLink RX12 32 "ShortEnoughModel" "begun" "I") zw_X12_readsFixed_976) (fun _ h9 => h9) rfl dX12_readsFixed_42 ?_
    obtain ⟨o_31, hqo_31, hfn⟩ := zb_s hfn
    refine zcVv (ci := 12) (rest := []) (pc' := 48) (ws' := [(h0, .inr (12, zO a0 (zI (zI (zI (zI b0 6 o_5.2.1) 7 o_5.2.2.1) 8 o_31.1) 9 o_31.2) c0)), zVi (a0 0) k1 1200 f1, zVi (a0 10) k2 71 f2, zVi (a0 17) k3 2 f3, zVi (a0 18) k4 28 f4, zVi (a0 12) k5 2 f5, zVi (a0 13) k6 8 f6, zVi (a0 25) k7 28 f7]) hP hK hD hS hA ⟨hx, hb, hml, hown, hts⟩ (zf_X12_faults l dC dI h0 3 o_5.2.2.1 a0 (zI (zI (zI (zI b0 6 o_5.2.1) 7 o_5.2.2.1) 8 o_5.2.2.2.1) 9 o_5.2.2.2.2) c0 o_31 hqo_31 H.size) (cwV 2 hts gX12_readsFixed_X12_faults rfl rfl rfl zhd_X12_faults ⟨Nat.le_of_ble_eq_true rfl, Nat.le_of_ble_eq_true rfl⟩) [0] rfl (of_decide_eq_true rfl) [] rfl rfl rfl rfl hl.1 rfl (Nat.le_of_ble_eq_true rfl) dX12_readsFixed_45 ⟨Nat.le_of_ble_eq_true rfl, Nat.le_of_ble_eq_true rfl⟩ [some 0] (of_decide_eq_true rfl) (of_decide_eq_true rfl) rfl rfl rfl (fun H locs hP hD hS => ?_)
    exact jp_18 (o_31.1, o_31.2) H locs ls hfn hP hD hS (lv_sub hl [0, 1, 2] rfl)
  refine lv_if_eq (tgt := 25) hx hb dX12_readsFixed_14 (of_decide_eq_true rfl) (fun c_35 => ?_) (fun c_35 => ?_)
  · have hfn := (if_pos c_35).symm.trans hfn
    refine lv_iconst (v := 0) hx hb dX12_readsFixed_25 zci_0 ?_
    exact jp_13 0 H locs ls hfn hP hD hS (lv_sub hl [1, 2] rfl)
  have hfn := (if_neg c_35).symm.trans hfn
  refine lv_aload_n hx hb dX12_readsFixed_17 rfl (lv_at hl 2 rfl) ?_
  refine lv_iload_n hx hb dX12_readsFixed_18 rfl (lv_at hl 0 rfl) ?_
  obtain ⟨o_36, hqo_36, hfn⟩ := zb_s hfn
  refine zcVi (ci := 12) (rest := []) (pc' := 22) (ws' := [(h0, .inr (12, zO a0 (zI (zI (zI (zI b0 6 o_5.2.1) 7 o_5.2.2.1) 8 o_5.2.2.2.1) 9 o_5.2.2.2.2) c0)), zVi (a0 0) k1 1200 f1, zVi (a0 10) k2 71 f2, zVi (a0 17) k3 2 f3, zVi (a0 18) k4 28 f4, zVi (a0 12) k5 2 f5, zVi (a0 13) k6 8 f6, zVi (a0 25) k7 28 f7]) hP hK hD hS hA ⟨hx, hb, hml, hown, hts⟩ (zf_X12_formatNamed l dC dI h0 o_5.1 a0 (zI (zI (zI (zI b0 6 o_5.2.1) 7 o_5.2.2.1) 8 o_5.2.2.2.1) 9 o_5.2.2.2.2) c0 k5 f5 k6 f6 o_36 hqo_36 H.size) (cwV 1 hts gX12_readsFixed_X12_formatNamed rfl rfl rfl zhd_X12_formatNamed ⟨Nat.le_of_ble_eq_true rfl, Nat.le_of_ble_eq_true rfl⟩) [0, 5, 6] rfl (of_decide_eq_true rfl) [4, 5] rfl rfl rfl rfl hl.1 rfl (Nat.le_of_ble_eq_true rfl) dX12_readsFixed_19 ⟨Nat.le_of_ble_eq_true rfl, Nat.le_of_ble_eq_true rfl⟩ [some 0, none, none, none, none, some 1, some 2] (of_decide_eq_true rfl) (of_decide_eq_true rfl) rfl rfl rfl (fun H locs hP hD hS => ?_)
  refine lv_goto (tgt := 26) hx hb dX12_readsFixed_22 (of_decide_eq_true rfl) ?_
  exact jp_13 o_36 H locs ls hfn hP hD hS (lv_sub hl [1, 2] rfl)
